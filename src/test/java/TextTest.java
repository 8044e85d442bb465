/** Promises 1 to 5: a new object, THE TAPE, the TEXT of a TOWN and its FAULTS. */
public final class TextTest {
    private static final String HOUSES = Check.HOUSES;
    private static final String BIRD = HOUSES + "bird x plain from ash to bay day 0 wrong 1";
    private static final String STRAY = HOUSES + "stray s from ash day 0";

    public static void main(String[] args) {
        newObject();
        feeding();
        refusedLofts();
        soundTexts();
        form();
        untoldNames();
        toldAgain();
        bounds();
        many();
        lacks();
        faultAndPlaceLast();
        townStaysOrStartsAnew();
        nothingIsLeftOver();
        Check.end("TextTest");
    }

    // Promise 1
    private static void newObject() {
        GrudgeLoft x = new GrudgeLoft();
        for (int what = 0; what <= 11; what++) {
            Check.due("new: size(" + what + ")", x.size(what), 0);
        }
        Check.due("new: trouble()", x.trouble(), 0);
        Check.due("new: fault()", x.fault(), 0);
        Check.due("new: where()", x.where(), -1);
        Check.due("NONE", GrudgeLoft.NONE, -1);
        Check.refused(x, "new: birds()", x.birds(), 1);
    }

    // Promise 2
    private static void feeding() {
        GrudgeLoft x = new GrudgeLoft();
        for (int i = 1; i <= 45; i++) {
            Check.due("feed " + i, x.feed(0, 0, 0, 0, 0), 20 * i);
        }
        Check.due("feed 46", x.feed(0, 0, 0, 0, 0), -1);
        Check.due("size(11) of a full tape", x.size(11), 900);
        Check.due("feed isn't a call of a number", x.trouble(), 0);

        // the highest byte of a number is the first one: the strange byte stands at 5
        GrudgeLoft z = new GrudgeLoft();
        z.feed(0x6c6f6674, 0x20FF2020, 0x20202020, 0x20202020, -1);
        Check.refused(z, "loft of a strange byte", z.loft(20), 4);
        Check.due("where of a strange byte", z.where(), 5);
    }

    // Promises 3, 5: refused by 2
    private static void refusedLofts() {
        GrudgeLoft x = new GrudgeLoft();
        Check.refused(x, "loft(1), nothing fed", x.loft(1), 2);
        Check.refused(x, "loft(-1)", x.loft(-1), 2);
        Check.refused(x, "loft(0), nothing fed", x.loft(0), 4);
        Check.due("fault of no text", x.fault(), 1);
        Check.due("where of no text", x.where(), 0);
        Check.feed(x, Check.TOWN);
        int fed = x.size(11);
        Check.refused(x, "loft of too many bytes", x.loft(fed + 1), 2);
        Check.refused(x, "loft(max)", x.loft(Integer.MAX_VALUE), 2);
        Check.refused(x, "loft(min)", x.loft(Integer.MIN_VALUE), 2);
        Check.due("THE TAPE stays by 2", x.size(11), fed);
        Check.due("fault stays by 2", x.fault(), 1);
        Check.due("where is NONE by 2", x.where(), -1);
        Check.granted(x, "loft of all", x.loft(fed), 3);
        Check.due("THE TAPE is empty behind", x.size(11), 0);
        Check.due("fault of a sound text", x.fault(), 0);
        Check.due("where of a sound text", x.where(), -1);
    }

    private static void sound(String text, int houses) {
        GrudgeLoft x = new GrudgeLoft();
        Check.granted(x, "loft of '" + text + "'", Check.loft(x, text), houses);
        Check.due("fault of '" + text + "'", x.fault(), 0);
    }

    // Promise 3
    private static void soundTexts() {
        sound(HOUSES.substring(0, HOUSES.length() - 1), 3);
        sound("loft wings 50 hawks 100 storm 100;house a at 99 coins 300;house b at 0 coins 0", 2);
        sound("   loft   wings1hawks 0storm0 ; house a at 0coins0;house b at 007 coins 000   ", 2);
        sound("loft wings 1 hawks 0 storm 0;house from at 0 coins 0;house at at 0 coins 0;"
                + "bird to plain from from to at day 30 wrong 60;bird day blind from at to from day 0 wrong 1;"
                + "stray plain from at day 30;seen from day 30 birds 9;seen at day 30 birds 0;"
                + "seen at day 0 birds 0", 2);
        sound(BIRD + ";house abcdefgh at 3 coins 3", 4);
        sound(BIRD + ";" + "bird y proud from bay to ash day 1 wrong 2;house z at 3 coins 3", 4);
        GrudgeLoft cut = new GrudgeLoft();
        String whole = HOUSES.substring(0, HOUSES.length() - 1);
        Check.feed(cut, whole + ";nonsense");
        Check.granted(cut, "loft of the first bytes", cut.loft(whole.length()), 3);
        // a TOKEN ends where the first n bytes do: 123 is cut to 12
        GrudgeLoft half = new GrudgeLoft();
        String last = whole + ";house dot at 9 coins 12";
        Check.feed(half, last + "3");
        Check.granted(half, "loft cut in a TOKEN", half.loft(last.length()), 4);
        Check.due("coins cut", half.house(3, 1), 12);
        // and where a full tape does
        StringBuilder wide = new StringBuilder(whole + ";house dot at 9 coins ");
        while (wide.length() < 897) {
            wide.append(' ');
        }
        Check.granted(half, "loft of 900", Check.loft(half, wide.append("123").toString()), 4);
        Check.due("coins at the end", half.house(3, 1), 123);
    }

    /** A ^ stands ahead of the place of the fault. */
    private static void faulty(int number, String marked) {
        int place = marked.indexOf('^');
        String text = marked.substring(0, place) + marked.substring(place + 1);
        GrudgeLoft x = new GrudgeLoft();
        Check.refused(x, "loft of '" + marked + "'", Check.loft(x, text), 4);
        Check.due("fault of '" + marked + "'", x.fault(), number);
        Check.due("where of '" + marked + "'", x.where(), place);
        Check.due("no town by '" + marked + "'", x.size(3), 0);
        Check.due("THE TAPE is empty by '" + marked + "'", x.size(11), 0);
    }

    // Promise 4
    private static void form() {
        faulty(1, "^");
        faulty(1, "   ^");
        faulty(1, "^;");
        faulty(1, "^12");
        faulty(1, "^Loft wings 1");
        faulty(1, "^lofts wings 1");
        faulty(1, "loft ^hawks 1");
        faulty(1, "loft^");
        faulty(1, "loft wings^");
        faulty(1, "loft wings  ^");
        faulty(1, "loft wings ^;");
        faulty(1, "loft wings ^-1 hawks 0 storm 0");
        faulty(1, "loft wings ^0001 hawks 0 storm 0");
        faulty(1, "loft wings 1 ^2 hawks 0 storm 0");
        faulty(1, Check.LOFT + "^");
        faulty(1, Check.LOFT + "  ^");
        faulty(1, Check.LOFT + "^;house a at 0 coins 0");
        faulty(1, "loft wings 10 hawks 25 storm 40 ^house a at 0 coins 0");
        faulty(1, "loft wings 10 hawks 25 storm 40 ^,");
        faulty(1, Check.LOFT + "house ^abcdefghi at 0 coins 0");
        faulty(1, Check.LOFT + "house ^7 at 0 coins 0");
        faulty(1, Check.LOFT + "house a ^coins 0 at 0");
        for (String reserved : new String[] {"loft", "house", "bird", "stray", "seen"}) {
            faulty(1, Check.LOFT + "house ^" + reserved + " at 0 coins 0");
            faulty(1, HOUSES + "bird ^" + reserved + " plain from ash to bay day 0 wrong 1");
            faulty(1, HOUSES + "bird x plain from ^" + reserved + " to bay day 0 wrong 1");
            faulty(1, HOUSES + "bird x plain from ash to ^" + reserved + " day 0 wrong 1");
            faulty(1, HOUSES + "stray ^" + reserved + " from ash day 0");
            faulty(1, HOUSES + "stray s from ^" + reserved + " day 0");
            faulty(1, HOUSES + "seen ^" + reserved + " day 0 birds 1");
        }
        faulty(1, HOUSES + "bird x ^from ash to bay day 0 wrong 1");
        faulty(1, HOUSES + "bird x ^odd from ash to bay day 0 wrong 1");
        faulty(1, HOUSES + "bird x plain ^to bay from ash day 0 wrong 1");
        faulty(1, HOUSES + "bird x plain from ash ^day 0 wrong 1");
        faulty(1, HOUSES + "bird x plain from ash to bay ^wrong 1 day 0");
        faulty(1, HOUSES + "bird x plain from ash to bay day 0 ^;");
        faulty(1, HOUSES + "bird x plain from ash to bay day 0 wrong ^x");
        faulty(1, BIRD + " ^bird");
        faulty(1, HOUSES + "stray s ^day 0");
        faulty(1, HOUSES + "stray s from ash^");
        faulty(1, HOUSES + "seen ash ^birds 0");
        faulty(1, HOUSES + "seen ash day 0^");
        faulty(1, HOUSES + "seen ash day 0 birds ^1000");
        faulty(1, BIRD + ";^");
        faulty(1, BIRD + ";^cat");
    }

    private static void untoldNames() {
        faulty(2, Check.LOFT + "bird x plain from ^ash to bay day 0 wrong 1");
        faulty(2, HOUSES + "bird x plain from ^x to bay day 0 wrong 1");
        faulty(2, HOUSES + "bird x plain from ash to ^dale day 99 wrong 1");
        faulty(2, BIRD + ";stray s from ^x day 0");
        faulty(2, STRAY + ";stray t from ^s day 0");
        faulty(2, STRAY + ";seen ^s day 0 birds 1");
        faulty(2, HOUSES + "seen ^dale day 0 birds 1");
        faulty(2, HOUSES + "stray s from ^late day 0;house late at 0 coins 0");
    }

    private static void toldAgain() {
        faulty(3, HOUSES + "house ^ash at 0 coins 0");
        faulty(3, HOUSES + "bird ^cot plain from ash to bay day 0 wrong 1");
        faulty(3, BIRD + ";bird ^x plain from ash to bay day 0 wrong 1");
        faulty(3, BIRD + ";house ^x at 0 coins 0");
        faulty(3, BIRD + ";stray ^x from ash day 0");
        faulty(3, STRAY + ";stray ^s from ash day 0");
        faulty(3, STRAY + ";bird ^s plain from ash to bay day 0 wrong 1");
        faulty(3, HOUSES + "bird x plain from bay to ^bay day 0 wrong 1");
        faulty(3, HOUSES + "seen ash day 3 birds 1;seen bay day 3 birds 1;seen ash day 4 birds 1;"
                + "seen ash day ^3 birds 2");
        faulty(3, HOUSES + "seen ash day 3 birds 1;seen ash day ^003 birds 10");
        faulty(3, Check.LOFT + "^loft wings 1 hawks 0 storm 0");
        faulty(3, BIRD + ";^loft");
    }

    private static void bounds() {
        faulty(4, "loft wings ^0 hawks 0 storm 0");
        faulty(4, "loft wings ^51 hawks 0 storm 0");
        faulty(4, "loft wings 50 hawks ^101 storm 0");
        faulty(4, "loft wings 50 hawks 0 storm ^101");
        faulty(4, Check.LOFT + "house a at ^100 coins 0");
        faulty(4, Check.LOFT + "house a at 99 coins ^301");
        faulty(4, HOUSES + "bird x plain from ash to bay day ^31 wrong 1");
        faulty(4, HOUSES + "bird x plain from ash to bay day 30 wrong ^0");
        faulty(4, HOUSES + "bird x plain from ash to bay day 30 wrong ^61");
        faulty(4, HOUSES + "stray s from ash day ^31");
        faulty(4, HOUSES + "seen ash day ^31 birds 0");
        faulty(4, HOUSES + "seen ash day 30 birds ^10");
    }

    private static void many() {
        StringBuilder full = new StringBuilder(Check.LOFT);
        for (char name = 'a'; name <= 'f'; name++) {
            full.append("house ").append(name).append(" at 0 coins 0;");
        }
        faulty(5, full + "^house");
        for (char name = 'g'; name <= 'm'; name++) {
            full.append("bird ").append(name).append(" plain from a to b day 0 wrong 1;");
        }
        faulty(5, full + "^bird a");
        for (char name = 'n'; name <= 'p'; name++) {
            full.append("stray ").append(name).append(" from c day 0;");
        }
        faulty(5, full + "^stray");
        for (int day = 0; day < 5; day++) {
            full.append("seen d day ").append(day).append(" birds 0;");
        }
        faulty(5, full + "^seen");
        faulty(3, full + "^loft");
        sound(full.substring(0, full.length() - 1), 6);
    }

    private static void lacks() {
        faulty(6, "^house a at 0 coins 0");
        faulty(6, "  ^bird");
        faulty(6, "^stray");
        faulty(6, "^seen");
        faulty(6, "loft wings 10 hawks 25 storm 40^");
        faulty(6, "loft wings 10 hawks 25 storm 40  ^");
        faulty(6, Check.LOFT + "house a at 0 coins 0^");
    }

    // Promises 4, 5
    private static void faultAndPlaceLast() {
        GrudgeLoft x = new GrudgeLoft();
        Check.loft(x, "house a");
        Check.due("where", x.where(), 0);
        x.feed(0, 0, 0, 0, 0);
        x.size(0);
        x.trouble();
        Check.ledThrows(x, 0);
        Check.due("where behind calls that can't be refused", x.where(), 0);
        x.birds();
        Check.due("where behind another refusal", x.where(), -1);
        Check.due("fault behind another refusal", x.fault(), 6);
        x.loft(999);
        Check.due("fault behind loft by 2", x.fault(), 6);
        x.loft(20);
        Check.due("fault of zeros", x.fault(), 1);
        Check.loft(x, Check.TOWN);
        Check.due("fault of a sound text", x.fault(), 0);
        Check.due("where of a sound text", x.where(), -1);
    }

    // Promise 3
    private static void townStaysOrStartsAnew() {
        GrudgeLoft x = Check.town(Check.TOWN + ";stray s from ash day 3;seen ash day 0 birds 0");
        Check.days(x, 3);
        x.pay(0, 2);
        x.image();
        Check.refused(x, "faulty loft", Check.loft(x, HOUSES + "stray s from ash day 3;bird"), 4);
        Check.due("wings stay", x.size(0), 10);
        Check.due("birds stay", x.size(4), 4);
        Check.due("strays stay", x.size(5), 1);
        Check.due("seen stays", x.size(6), 1);
        Check.due("day stays", x.size(7), 3);
        Check.due("coins stay", x.size(8), 2);
        Check.due("acts stay", x.size(9), 4);
        Check.due("images stay", x.size(10), 1);
        Check.due("LEFT stays", x.bird(0, 6), 10);
        Check.due("fits stay", x.fits(), 2);
        Check.granted(x, "second loft", Check.loft(x, Check.TOWN), 3);
        Check.due("no strays", x.size(5), 0);
        Check.due("nothing seen", x.size(6), 0);
        Check.due("day anew", x.size(7), 0);
        Check.due("coins anew", x.size(8), 0);
        Check.due("acts anew", x.size(9), 0);
        Check.due("images anew", x.size(10), 0);
        Check.due("LEFT anew", x.bird(0, 6), 12);
        Check.due("coins of a house anew", x.house(1, 1), 50);
        Check.due("WHITE anew", x.house(1, 2), 0);
        Check.due("undo", x.undo(), false);
        Check.due("back", x.back(0), false);
    }

    // each loft forgets all that earlier ones told, sound or faulty
    private static void nothingIsLeftOver() {
        GrudgeLoft x = new GrudgeLoft();
        String full = Check.TOWN + ";stray s from ash day 3;seen ash day 0 birds 0";
        String bare = "loft wings 1 hawks 2 storm 3;house a at 0 coins 4;house b at 7 coins 5";
        for (int i = 0; i < 3; i++) {
            Check.loft(x, full);
            Check.due("birds of the full one", x.size(4), 4);
            Check.due("seen of the full one", x.size(6), 1);
            Check.due("fits of the full one", x.fits(), 2);
            x.meet(0, 1);
            if (i > 0) {
                Check.loft(x, full + ";stray ash");
            }
            for (int k = 0; k <= i; k++) {
                Check.granted(x, "loft of the bare one", Check.loft(x, bare), 2);
                int[] due = {1, 2, 3, 2, 0, 0, 0, 0, 0, 0, 0, 0};
                for (int what = 0; what < due.length; what++) {
                    Check.due("size(" + what + ") of the bare one", x.size(what), due[what]);
                }
                Check.due("fits of the bare one", x.fits(), 1);
                Check.due("coins of the bare one", x.house(1, 1), 5);
            }
        }
        Check.loft(x, full);
        x.meet(0, 1);
        Check.loft(x, full);
        Check.due("none is gone", x.birds(), 0b1111);
    }
}
