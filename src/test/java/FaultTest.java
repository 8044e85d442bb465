/** Terms I: the LINES of a TEXT, their bounds, and its FAULTS. */
public final class FaultTest {
    private static final String HOUSES = Check.HOUSES;
    private static final String BIRD = HOUSES + "bird x plain from ash to bay day 0 wrong 1";
    private static final String STRAY = HOUSES + "stray s from ash day 0";
    private static final String[] RESERVED = {"loft", "house", "bird", "stray", "seen"};
    /** One LINE of each sort, a TOKEN at a time; at NAMES and KINDS nothing else but a NAME or KIND goes on. */
    private static final String[] TOKENS = (
            "loft wings 10 hawks 0 storm 0 ; house ash at 0 coins 0 ; house bay at 9 coins 0 ; "
            + "bird pip plain from ash to bay day 0 wrong 1 ; stray sid from bay day 0 ; "
            + "seen ash day 0 birds 0").split(" ");

    public static void main(String[] args) {
        loftBounds();
        houseBounds();
        birdBounds();
        birdKinds();
        strayBounds();
        seenBounds();
        upTo();
        anyOrder();
        namesMayBe();
        namesForgotten();
        namesMayNotBe();
        toldAheadOfUse();
        leftmost();
        leastNumber();
        formOfBytes();
        formOfTokens();
        formAtTheEnd();
        formBetweenLines();
        untoldNames();
        noHouses();
        namesAgain();
        secondHouseIsTheFirst();
        dayToldAlready();
        otherDaysAndHouses();
        secondLoft();
        outOfBounds();
        manyOfEach();
        manyAtTheFirstWord();
        linesAheadOfTheLoft();
        lessThanTwoHouses();
        Check.end("FaultTest");
    }

    // Terms I, "(1 .. 50; 0 .. 100 in a hundred; 0 .. 100), ahead of all others": the least, the most, and beyond
    private static void loftBounds() {
        String two = ";house a at 0 coins 0;house b at 0 coins 0";
        Check.sound("loft wings 1 hawks 0 storm 0" + two, 2);
        Check.sound("loft wings 50 hawks 100 storm 100" + two, 2);
        Check.faulty(4, "loft wings ^0 hawks 0 storm 0" + two);
        Check.faulty(4, "loft wings ^51 hawks 0 storm 0" + two);
        Check.faulty(4, "loft wings 50 hawks ^101 storm 0" + two);
        Check.faulty(4, "loft wings 50 hawks 100 storm ^101" + two);
        Check.faulty(4, "loft wings ^999 hawks 0 storm 0" + two);
    }

    // Terms I, "(a place, 0 .. 99; 0 .. 300; up to 6)": the least, the most, and beyond
    private static void houseBounds() {
        Check.sound(Check.LOFT + "house a at 0 coins 300;house b at 99 coins 0", 2);
        Check.faulty(4, Check.LOFT + "house a at ^100 coins 0;house b at 0 coins 0");
        Check.faulty(4, Check.LOFT + "house a at 99 coins ^301;house b at 0 coins 0");
        Check.faulty(4, Check.LOFT + "house a at 0 coins ^999;house b at 0 coins 0");
    }

    // Terms I, "0 .. 30; 1 .. 60; up to 7)": of a bird the least, the most, and beyond
    private static void birdBounds() {
        Check.sound(HOUSES + "bird x plain from ash to bay day 0 wrong 1", 3);
        Check.sound(HOUSES + "bird x plain from ash to bay day 30 wrong 60", 3);
        Check.faulty(4, HOUSES + "bird x plain from ash to bay day ^31 wrong 1");
        Check.faulty(4, HOUSES + "bird x plain from ash to bay day 30 wrong ^0");
        Check.faulty(4, HOUSES + "bird x plain from ash to bay day 30 wrong ^61");
    }

    // Terms I, "KIND: plain, honest, proud, or blind;": each, and no other WORD
    private static void birdKinds() {
        String[] kinds = {"plain", "honest", "proud", "blind"};
        for (int kind = 0; kind < kinds.length; kind++) {
            GrudgeLoft x = Check.town(HOUSES + "bird x " + kinds[kind] + " from ash to bay day 0 wrong 1");
            Check.due("KIND " + kinds[kind], x.bird(0, 0), kind);
        }
        Check.faulty(1, HOUSES + "bird x ^odd from ash to bay day 0 wrong 1");
        Check.faulty(1, HOUSES + "bird x ^proudly from ash to bay day 0 wrong 1");
        Check.faulty(1, HOUSES + "bird x ^from ash to bay day 0 wrong 1");
        Check.faulty(1, HOUSES + "bird x plain ^plain from ash to bay day 0 wrong 1");
    }

    // Terms I, "stray NAME from HOUSE day WHOLE (0 .. 30; up to 3)": the least, the most, and beyond
    private static void strayBounds() {
        Check.sound(HOUSES + "stray s from ash day 0;stray t from bay day 30", 3);
        Check.faulty(4, HOUSES + "stray s from ash day ^31");
    }

    // Terms I, "seen HOUSE day WHOLE birds WHOLE (0 .. 30; 0 .. 9;": the least, the most, and beyond
    private static void seenBounds() {
        Check.sound(HOUSES + "seen ash day 0 birds 9;seen ash day 30 birds 0", 3);
        Check.faulty(4, HOUSES + "seen ash day ^31 birds 0");
        Check.faulty(4, HOUSES + "seen ash day 30 birds ^10");
    }

    // Terms I, "up to 5)": as many of each LINE as there's room for are read, and all are there
    private static void upTo() {
        GrudgeLoft x = Check.town(Check.FULL);
        int[] due = {5, 10, 30, 6, 7, 3, 5};
        for (int what = 0; what < due.length; what++) {
            Check.due("size(" + what + ") of as many as may be", x.size(what), due[what]);
        }
        Check.due("coins of the last house", x.house(5, 1), 300);
        Check.due("NEED of the last bird", x.bird(6, 5), 1);
        Check.due("the last bird is from", x.bird(6, 1), 2);
    }

    // Terms I, "LINE {; LINE}": behind the loft they stand in any order, but for the NAMES they use
    private static void anyOrder() {
        Check.sound(Check.LOFT + "house a at 0 coins 0;stray s from a day 0;seen a day 0 birds 0;"
                + "house b at 0 coins 0;bird x plain from b to a day 0 wrong 1;house c at 0 coins 0;"
                + "bird y plain from c to b day 0 wrong 1;seen c day 0 birds 0;stray t from c day 0", 3);
    }

    // Terms I, "NAMES are WORDS but loft, house, bird, stray, seen;": all other WORDS of the TEXT may be NAMES
    private static void namesMayBe() {
        Check.sound("loft wings 1 hawks 0 storm 0;house from at 0 coins 0;house at at 0 coins 0;"
                + "house wings at 0 coins 0;house hawks at 0 coins 0;house storm at 0 coins 0;house coins at 0 coins 0;"
                + "bird to plain from from to at day 30 wrong 60;bird day blind from at to from day 0 wrong 1;"
                + "bird wrong proud from wings to storm day 0 wrong 1;"
                + "bird birds honest from coins to hawks day 0 wrong 1;"
                + "bird plain plain from at to from day 0 wrong 1;bird honest plain from at to from day 0 wrong 1;"
                + "stray proud from at day 30;stray blind from from day 0;seen from day 30 birds 9;"
                + "seen at day 30 birds 0;seen wings day 0 birds 0", 6);
    }

    // Terms I, "NAMES are WORDS": so these are taken for one where a NAME is due, though it was forgotten
    private static void namesForgotten() {
        Check.faulty(1, Check.LOFT + "house at ^0 coins 0");
        Check.faulty(1, HOUSES + "bird plain ^from ash to bay day 0 wrong 1");
        Check.faulty(1, HOUSES + "stray from ^ash day 0");
        Check.faulty(2, HOUSES + "bird x plain from ^to bay day 0 wrong 1");
        Check.faulty(2, HOUSES + "bird x plain from ash to ^day 0 wrong 1");
        Check.faulty(2, HOUSES + "stray s from ^day 0");
        Check.faulty(2, HOUSES + "seen ^day 0 birds 1");
    }

    // Terms I, "NAMES are WORDS but loft, house, bird, stray, seen;": with these no TOWN goes on where a NAME is due
    private static void namesMayNotBe() {
        for (String word : RESERVED) {
            Check.faulty(1, Check.LOFT + "house ^" + word + " at 0 coins 0");
            Check.faulty(1, HOUSES + "bird ^" + word + " plain from ash to bay day 0 wrong 1");
            Check.faulty(1, HOUSES + "bird x plain from ^" + word + " to bay day 0 wrong 1");
            Check.faulty(1, HOUSES + "bird x plain from ash to ^" + word + " day 0 wrong 1");
            Check.faulty(1, HOUSES + "stray ^" + word + " from ash day 0");
            Check.faulty(1, HOUSES + "stray s from ^" + word + " day 0");
            Check.faulty(1, HOUSES + "seen ^" + word + " day 0 birds 1");
        }
    }

    // Terms I, "each told once, ahead of its use.": told behind it, it isn't told
    private static void toldAheadOfUse() {
        Check.faulty(2, HOUSES + "bird x plain from ^late to ash day 0 wrong 1;house late at 0 coins 0");
        Check.faulty(2, HOUSES + "bird x plain from ash to ^late day 0 wrong 1;house late at 0 coins 0");
        Check.faulty(2, HOUSES + "stray s from ^late day 0;house late at 0 coins 0");
        Check.faulty(2, HOUSES + "seen ^late day 0 birds 0;house late at 0 coins 0");
    }

    // Terms I, "FAULTS, the first that is met from the left": whatever number those have that stand behind it
    private static void leftmost() {
        Check.faulty(4, "loft wings ^0 hawks 101 storm x");
        Check.faulty(4, "loft wings 1 hawks ^101 lofts!");
        Check.faulty(6, "^house loft at 100!");
        Check.faulty(2, HOUSES + "bird x plain from ^dale to dale day 99 wrong 0;bird ash");
        Check.faulty(3, HOUSES + "bird ^ash odd from ash to ash day 99 wrong 0");
        Check.faulty(3, HOUSES + "bird x plain from ash to ^ash day 99 wrong 0");
        Check.faulty(4, HOUSES + "bird x plain from ash to bay day ^99 wrong 0!");
        Check.faulty(1, HOUSES + "bird x plain from ash to bay ^wrong 0 day 99");
        Check.faulty(5, Check.FULL + ";^house loft");
        Check.faulty(4, Check.LOFT + "house a at 0 coins ^301");
    }

    // Terms I, "of one place the least number": what has two FAULTS there tells the lesser one
    private static void leastNumber() {
        // the end: no LINE (1), and less than two houses (6)
        Check.faulty(1, "^");
        Check.faulty(1, Check.LOFT + "^");
        Check.faulty(1, Check.LOFT + "house a at 0 coins^");
        // no WHOLE of 3 digits (1), and out of bounds (4)
        Check.faulty(1, "loft wings ^1000 hawks 0 storm 0");
        // no NAME (1), nor told (2)
        Check.faulty(1, HOUSES + "seen ^loft day 0 birds 0");
        // another loft (3), for which there's no room (5)
        Check.faulty(3, Check.LOFT + "^loft");
        Check.faulty(3, Check.FULL + ";^loft wings 1 hawks 0 storm 0");
        // no WORD that begins a LINE (1), ahead of the loft (6)
        Check.faulty(1, "^wings 1");
    }

    // Terms I, "the first byte that begins no TOKEN (of more letters, digits that stand together: the first of them)":
    // at that byte; of too many letters or digits at the first of them
    private static void formOfBytes() {
        Check.faulty(1, "^?");
        Check.faulty(1, "  ^?loft");
        Check.faulty(1, "loft^?wings 1");
        Check.faulty(1, "loft wings ^-1 hawks 0 storm 0");
        Check.faulty(1, HOUSES + "seen ash day 0 birds 1^.5");
        Check.faulty(1, HOUSES + "seen ash day 0 birds ^1000");
        Check.faulty(1, HOUSES + "seen ash day ^0000 birds 1");
        Check.faulty(1, HOUSES + "seen ^ashashash day 0 birds 1");
        Check.faulty(1, HOUSES + "^seenseens ash day 0 birds 1");
    }

    // Terms I, "or TOKEN with which no TOWN goes on": at each TOKEN of each LINE a WHOLE, a ; and a WORD instead of it
    private static void formOfTokens() {
        for (int at = 0; at < TOKENS.length; at++) {
            String token = TOKENS[at];
            String ahead = firstTokens(at);
            boolean isWhole = Character.isDigit(token.charAt(0));
            boolean isName = at > 0 && (TOKENS[at - 1].matches("house|bird|stray|seen")
                    || TOKENS[at - 1].matches("from|to"));
            if (!isWhole) {
                Check.faulty(1, ahead + "^7");
            }
            if (!token.equals(";")) {
                Check.faulty(1, ahead + "^;");
            }
            if (!isName) {
                Check.faulty(1, ahead + "^zzz");
            }
            Check.faulty(1, ahead + "^loftloftl");
        }
    }

    // Terms I, "(the end: its place)": behind each TOKEN but the last of a LINE; behind blanks, too
    private static void formAtTheEnd() {
        for (int at = 0; at < TOKENS.length; at++) {
            boolean endsLine = at > 0 && TOKENS[at].equals(";");
            if (!endsLine) {
                String ahead = firstTokens(at);
                Check.faulty(1, ahead + "^");
                Check.faulty(1, ahead + "   ^");
            }
        }
        Check.sound(String.join(" ", TOKENS), 2);
        Check.faulty(1, String.join(" ", TOKENS) + ";^");
    }

    private static String firstTokens(int many) {
        StringBuilder text = new StringBuilder();
        for (int i = 0; i < many; i++) {
            text.append(TOKENS[i]).append(' ');
        }
        return text.toString();
    }

    // Terms I, "LINE {; LINE}": a ; between two, none ahead of the first, behind the last, two together
    private static void formBetweenLines() {
        Check.faulty(1, "loft wings 10 hawks 25 storm 40 ^house a at 0 coins 0");
        Check.faulty(1, BIRD + " ^bird y plain from ash to bay day 0 wrong 1");
        Check.faulty(1, "^;" + Check.TOWN);
        Check.faulty(1, Check.TOWN + ";^");
        Check.faulty(1, Check.TOWN + ";  ^");
        Check.faulty(1, Check.LOFT + "^;house a at 0 coins 0");
    }

    // Terms I, "2 a NAME that isn't told": of each HOUSE of each LINE, at it
    private static void untoldNames() {
        Check.faulty(2, Check.LOFT + "bird x plain from ^ash to bay day 0 wrong 1");
        Check.faulty(2, HOUSES + "bird x plain from ^dale to bay day 0 wrong 1");
        Check.faulty(2, HOUSES + "bird x plain from ash to ^dale day 0 wrong 1");
        Check.faulty(2, HOUSES + "stray s from ^dale day 0");
        Check.faulty(2, HOUSES + "seen ^dale day 0 birds 1");
        Check.faulty(2, HOUSES + "seen ^as day 0 birds 1");
        Check.faulty(2, HOUSES + "seen ^ashe day 0 birds 1");
    }

    // Terms I, "or is no house; at it": a bird's, a stray's, the LINE's own one
    private static void noHouses() {
        Check.faulty(2, HOUSES + "bird x plain from ^x to bay day 0 wrong 1");
        Check.faulty(2, HOUSES + "bird x plain from ash to ^x day 0 wrong 1");
        Check.faulty(2, BIRD + ";bird y plain from ^x to bay day 0 wrong 1");
        Check.faulty(2, BIRD + ";stray s from ^x day 0");
        Check.faulty(2, BIRD + ";seen ^x day 0 birds 1");
        Check.faulty(2, HOUSES + "stray s from ^s day 0");
        Check.faulty(2, STRAY + ";stray t from ^s day 0");
        Check.faulty(2, STRAY + ";bird y plain from ash to ^s day 0 wrong 1");
        Check.faulty(2, STRAY + ";seen ^s day 0 birds 1");
    }

    // Terms I, "3 a NAME told again; at it;": a house's, a bird's, a stray's for each of these
    private static void namesAgain() {
        String all = BIRD + ";stray s from ash day 0";
        for (String name : new String[] {"ash", "cot", "x", "s"}) {
            Check.faulty(3, all + ";house ^" + name + " at 0 coins 0");
            Check.faulty(3, all + ";bird ^" + name + " plain from ash to bay day 0 wrong 1");
            Check.faulty(3, all + ";stray ^" + name + " from ash day 0");
        }
    }

    // Terms I, "a second HOUSE that is the first; at it;": each one
    private static void secondHouseIsTheFirst() {
        for (String name : new String[] {"ash", "bay", "cot"}) {
            Check.faulty(3, HOUSES + "bird x plain from " + name + " to ^" + name + " day 0 wrong 1");
        }
        Check.faulty(3, BIRD + ";bird y blind from bay to ^bay day 0 wrong 1");
    }

    // Terms I, "a day told of that HOUSE already (seen); at its WHOLE;": be the 0s ahead of it, the birds as they may
    private static void dayToldAlready() {
        Check.faulty(3, HOUSES + "seen ash day 3 birds 1;seen ash day ^3 birds 1");
        Check.faulty(3, HOUSES + "seen ash day 3 birds 1;seen ash day ^003 birds 10");
        Check.faulty(3, HOUSES + "seen ash day 0 birds 1;seen bay day 0 birds 1;seen ash day 1 birds 0;"
                + "seen cot day 0 birds 0;seen ash day ^0 birds 2");
        Check.faulty(3, HOUSES + "seen cot day 30 birds 1;seen cot day ^30");
    }

    // Terms I, "each house and day once;": another day of that house, or that day of another one, isn't told already
    private static void otherDaysAndHouses() {
        Check.sound(HOUSES + "seen ash day 3 birds 1;seen bay day 3 birds 1;seen cot day 3 birds 1;"
                + "seen ash day 4 birds 1;seen ash day 30 birds 1", 3);
        Check.sound(BIRD + ";stray s from ash day 3;seen ash day 3 birds 1;seen ash day 0 birds 1", 3);
    }

    // Terms I, "a second loft: at that WORD.": at once, or behind all else
    private static void secondLoft() {
        Check.faulty(3, Check.LOFT + "^loft wings 1 hawks 0 storm 0");
        Check.faulty(3, Check.LOFT + "^loft!");
        Check.faulty(3, BIRD + ";^loft");
        Check.faulty(3, Check.LOFT + "house a at 0 coins 0;^loft");
    }

    // Terms I, "4 a WHOLE out of bounds; at it.": each of them, one beyond its most or least
    private static void outOfBounds() {
        Check.faulty(4, "loft wings ^00 hawks");
        Check.faulty(4, "loft wings ^051 hawks");
        Check.faulty(4, "loft wings 1 hawks ^101");
        Check.faulty(4, "loft wings 1 hawks 0 storm ^101");
        Check.faulty(4, Check.LOFT + "house a at ^100");
        Check.faulty(4, Check.LOFT + "house a at 0 coins ^301");
        Check.faulty(4, HOUSES + "bird x plain from ash to bay day ^31");
        Check.faulty(4, HOUSES + "bird x plain from ash to bay day 0 wrong ^0");
        Check.faulty(4, HOUSES + "bird x plain from ash to bay day 0 wrong ^61");
        Check.faulty(4, HOUSES + "stray s from ash day ^31");
        Check.faulty(4, HOUSES + "seen ash day ^31");
        Check.faulty(4, HOUSES + "seen ash day 0 birds ^10");
    }

    // Terms I, "5 MANY: a LINE more of its sort than there is room for": a seventh house, an eighth bird, ..
    private static void manyOfEach() {
        Check.faulty(5, Check.FULL + ";^house z at 0 coins 0");
        Check.faulty(5, Check.FULL + ";^bird z plain from a to b day 0 wrong 1");
        Check.faulty(5, Check.FULL + ";^stray z from a day 0");
        Check.faulty(5, Check.FULL + ";^seen a day 9 birds 0");
        Check.sound(Check.FULL, 6);
    }

    // Terms I, "at its first WORD.": ahead of whatever else is wrong with that LINE
    private static void manyAtTheFirstWord() {
        Check.faulty(5, Check.FULL + ";^house");
        Check.faulty(5, Check.FULL + ";^bird a odd");
        Check.faulty(5, Check.FULL + ";^stray stray");
        Check.faulty(5, Check.FULL + ";^seen z day 99");
        Check.faulty(5, Check.FULL + ";  ^seen a day 0 birds 0");
    }

    // Terms I, "6 LACKS: any LINE ahead of the loft; at its WORD;": of each sort, whatever follows
    private static void linesAheadOfTheLoft() {
        Check.faulty(6, "^house a at 0 coins 0;loft wings 1 hawks 0 storm 0");
        Check.faulty(6, "  ^bird");
        Check.faulty(6, "^stray s from ash");
        Check.faulty(6, "^seen!");
    }

    // Terms I, "at the end: less than two houses.": none, one; behind blanks; with strays and what was seen
    private static void lessThanTwoHouses() {
        Check.faulty(6, "loft wings 10 hawks 25 storm 40^");
        Check.faulty(6, "loft wings 10 hawks 25 storm 40  ^");
        Check.faulty(6, Check.LOFT + "house a at 0 coins 0^");
        Check.faulty(6, Check.LOFT + "house a at 0 coins 0  ^");
        Check.faulty(6, Check.LOFT + "house a at 0 coins 0;stray s from a day 0;seen a day 0 birds 0^");
        Check.sound(Check.LOFT + "house a at 0 coins 0;house b at 0 coins 0", 2);
    }
}
