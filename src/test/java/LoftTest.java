/** Promises 3 to 5: a TEXT becomes a TOWN, or is refused; the FAULT and its place. */
public final class LoftTest {
    private static final String TWO = "loft wings 1 hawks 2 storm 3;house a at 0 coins 4;house b at 7 coins 5";
    private static final String STRAY = Check.TOWN + ";stray s from ash day 3;seen ash day 0 birds 0";

    public static void main(String[] args) {
        firstBytes();
        firstBytesCutTokens();
        firstNone();
        emptyThen();
        howManyHouses();
        startsAnew();
        nothingToUndo();
        nothingIsLeftOver();
        numberRefused();
        tapeStays();
        townStays();
        noTownStaysNone();
        faultOfTheLatest();
        faultNotByNumber();
        noFault();
        placeWhileLatest();
        placeBehindOtherCalls();
        noPlace();
        Check.end("LoftTest");
    }

    // Promise 3, "The first n bytes of THE TAPE": what stands behind them isn't looked at
    private static void firstBytes() {
        GrudgeLoft x = new GrudgeLoft();
        Check.feed(x, TWO + ";nonsense!");
        Check.granted(x, "loft of the first bytes", () -> x.loft(TWO.length()), 2);
    }

    // Promise 3, "The first n bytes of THE TAPE": a TOKEN ends where they do
    private static void firstBytesCutTokens() {
        GrudgeLoft x = new GrudgeLoft();
        Check.feed(x, TWO + "67");
        Check.granted(x, "loft of one byte less", () -> x.loft(TWO.length() + 1), 2);
        Check.due("coins are cut", x.house(1, 1), 56);
        Check.feed(x, "lofts wings 1");
        x.loft(4);
        Check.due("where of a cut WORD", x.where(), 4);
    }

    // Promise 3, "The first n bytes of THE TAPE": none of them are a TEXT too, one with a FAULT at its end
    private static void firstNone() {
        GrudgeLoft x = new GrudgeLoft();
        Check.refused(x, "loft(0), nothing fed", () -> x.loft(0), 4);
        Check.due("fault", x.fault(), 1);
        x.feed(0x6c6f6674, 0, 0, 0, 0);
        Check.refused(x, "loft(0)", () -> x.loft(0), 4);
        Check.due("fault", x.fault(), 1);
        Check.due("bytes", x.size(11), 0);
    }

    // Promise 3, "(it is empty then)": behind a sound text and behind one with a FAULT, with bytes left or without
    private static void emptyThen() {
        GrudgeLoft x = new GrudgeLoft();
        Check.feed(x, TWO + ";nonsense!");
        x.loft(TWO.length());
        Check.due("bytes behind a sound one", x.size(11), 0);
        Check.feed(x, TWO + ";nonsense!");
        x.loft(TWO.length() + 1);
        Check.due("bytes behind a faulty one", x.size(11), 0);
        Check.refused(x, "loft(1) of the empty one", () -> x.loft(1), 2);
    }

    // Promise 3, "how many houses": from 2 to 6
    private static void howManyHouses() {
        StringBuilder text = new StringBuilder("loft wings 1 hawks 0 storm 0;house a at 1 coins 1");
        for (int houses = 2; houses <= 6; houses++) {
            text.append(";house ").append((char) ('a' + houses)).append(" at 0 coins 0");
            Check.sound(text.toString(), houses);
        }
        Check.sound(Check.FULL, 6);
    }

    // Promise 3, "are the TOWN from now on (day 0, nothing paid, none met;": whatever was done ahead
    private static void startsAnew() {
        GrudgeLoft x = Check.town(Check.TOWN);
        String ahead = Check.told(x);
        Check.days(x, 5);
        x.pay(0, 2);
        x.meet(1, 3);
        Check.feed(x, Check.TOWN);
        Check.granted(x, "second loft", () -> x.loft(Check.TOWN.length()), 3);
        Check.due("day", x.size(7), 0);
        Check.due("coins paid", x.size(8), 0);
        Check.due("none is gone", x.birds(), 0b1111);
        Check.due("coins of bay", x.house(1, 1), 50);
        Check.due("WHITE of ash", x.house(0, 2), 0);
        Check.due("all is as at first", Check.told(x).equals(ahead), true);
        GrudgeLoft full = Check.town(Check.FULL);
        Check.days(full, 7);
        for (int b = 0; b < 7; b++) {
            full.pay(b, 1);
        }
        Check.loft(full, Check.FULL);
        for (int b = 0; b < 7; b++) {
            Check.due("LEFT of " + b, full.bird(b, 6), 7 - b);
        }
        Check.due("coins of f", full.house(5, 1), 300);
        Check.due("WHITE of f", full.house(5, 2), 0);
    }

    // Promise 3, "nothing to undo, no IMAGES)": though there were
    private static void nothingToUndo() {
        GrudgeLoft x = Check.town(Check.TOWN);
        Check.days(x, 3);
        x.image();
        Check.loft(x, Check.TOWN);
        Check.due("ACTS", x.size(9), 0);
        Check.due("IMAGES", x.size(10), 0);
        Check.refused(x, "undo()", x::undo, 6);
        Check.refused(x, "back(0)", () -> x.back(0), 1);
        Check.due("day", x.size(7), 0);
    }

    // Promise 3, "are the TOWN from now on": of the one ahead nothing is left, though it had more of all
    private static void nothingIsLeftOver() {
        GrudgeLoft x = Check.town(Check.FULL);
        x.meet(0, 3);
        Check.due("NAMES told", Check.loft(x, TWO.replace("house b", "house g")), 2);
        int[] due = {1, 2, 3, 2, 0, 0, 0, 0, 0, 0, 0, 0};
        for (int what = 0; what < due.length; what++) {
            Check.due("size(" + what + ")", x.size(what), due[what]);
        }
        Check.due("fits()", x.fits(), 1);
        Check.due("coins", x.house(1, 1), 5);
        Check.due("birds()", x.birds(), 0);
        Check.due("house 2", x.house(2, 0), -1);
        Check.due("bird 0", x.bird(0, 0), -1);
        Check.loft(x, Check.FULL + ";loft");
        Check.loft(x, TWO + ";bird x plain from a to b day 9 wrong 1;stray s from a day 9;seen b day 9 birds 0");
        Check.due("fits() behind a faulty one", x.fits(), 1);
        Check.due("birds() behind a faulty one", x.birds(), 1);
        Check.due("seen behind a faulty one", x.size(6), 1);
    }

    // Promise 3, "NONE: 2": less than none, more than there are
    private static void numberRefused() {
        GrudgeLoft x = new GrudgeLoft();
        Check.refused(x, "loft(1), nothing fed", () -> x.loft(1), 2);
        Check.feed(x, TWO);
        int fed = x.size(11);
        for (int n : new int[] {-1, fed + 1, 901, Integer.MAX_VALUE, Integer.MIN_VALUE}) {
            Check.refused(x, "loft(" + n + ")", () -> x.loft(n), 2);
        }
        Check.granted(x, "loft of all", () -> x.loft(fed), 2);
    }

    // Promise 3, "(THE TAPE stays)": refused by 2, so does the TOWN
    private static void tapeStays() {
        GrudgeLoft x = Check.town(STRAY);
        Check.days(x, 2);
        Check.feed(x, TWO);
        int fed = x.size(11);
        Check.refusedAndStays(x, "loft of too many", () -> x.loft(fed + 1), 2);
        Check.due("bytes", x.size(11), fed);
        Check.granted(x, "loft of those", () -> x.loft(TWO.length()), 2);
    }

    // Promise 3, "4 (the TOWN stays).": with all that was done in it, what can be undone, IMAGES
    private static void townStays() {
        for (String text : new String[] {Check.FULL + "!", "loft", "", Check.LOFT + "house a at 9 coins 9"}) {
            GrudgeLoft x = Check.town(STRAY);
            Check.days(x, 5);
            x.pay(0, 2);
            x.image();
            x.meet(1, 3);
            Check.feed(x, text);
            Check.refusedAndStays(x, "loft of '" + text + "'", () -> x.loft(text.length()), 4);
            Check.due("day", x.size(7), 5);
            Check.due("ACTS", x.size(9), 7);
            Check.granted(x, "undo()", x::undo);
            Check.due("LEFT of pat", x.bird(1, 6), 5);
            Check.granted(x, "back(0)", () -> x.back(0));
            Check.due("coins paid", x.size(8), 2);
        }
    }

    // Promise 3, "4 (the TOWN stays).": where there's none, there is none
    private static void noTownStaysNone() {
        GrudgeLoft x = new GrudgeLoft();
        Check.loft(x, Check.FULL + "!");
        for (int what = 0; what <= 11; what++) {
            Check.due("size(" + what + ")", x.size(what), 0);
        }
        Check.refused(x, "birds()", x::birds, 1);
        Check.refused(x, "house(0, 0)", () -> x.house(0, 0), 1);
        Check.refused(x, "bird(0, 0)", () -> x.bird(0, 0), 1);
        Check.refused(x, "could(0)", () -> x.could(0), 1);
        Check.refused(x, "fits()", x::fits, 1);
    }

    // Promise 4, "The FAULT of the latest loft()": whatever is called behind it
    private static void faultOfTheLatest() {
        GrudgeLoft x = new GrudgeLoft();
        Check.loft(x, "house a");
        Check.due("fault", x.fault(), 6);
        x.birds();
        x.undo();
        Check.due("fault behind other refusals", x.fault(), 6);
        Check.loft(x, "loft wings 0");
        Check.due("fault of another one", x.fault(), 4);
        Check.due("fault once more", x.fault(), 4);
    }

    // Promise 4, "not refused by 2;": such a loft changes no FAULT, be there one or none
    private static void faultNotByNumber() {
        GrudgeLoft x = new GrudgeLoft();
        x.loft(1);
        Check.due("fault behind the first loft, by 2", x.fault(), 0);
        Check.loft(x, "house a");
        x.loft(1);
        Check.due("fault behind a loft by 2", x.fault(), 6);
        Check.loft(x, TWO);
        x.loft(-1);
        Check.due("no fault behind a loft by 2", x.fault(), 0);
    }

    // Promise 4, "0 without one.": of a new object, behind a sound text
    private static void noFault() {
        GrudgeLoft x = new GrudgeLoft();
        Check.due("fault of a new object", x.fault(), 0);
        Check.loft(x, "house a");
        Check.loft(x, TWO);
        Check.due("fault of a sound text", x.fault(), 0);
    }

    // Promise 5, "Its place, if the latest call that may be refused was by 4": the first, a later, the end
    private static void placeWhileLatest() {
        GrudgeLoft x = new GrudgeLoft();
        Check.loft(x, "house a");
        Check.due("where", x.where(), 0);
        Check.loft(x, "loft wings 0");
        Check.due("where of another one", x.where(), 11);
        Check.loft(x, "loft");
        Check.due("where at the end", x.where(), 4);
        Check.due("where once more", x.where(), 4);
    }

    // Promise 5, "the latest call that may be refused": feed, fault, where, led, size, trouble are no such calls
    private static void placeBehindOtherCalls() {
        GrudgeLoft x = new GrudgeLoft();
        Check.loft(x, "loft wings 0");
        x.feed(0, 0, 0, 0, 0);
        x.fault();
        x.where();
        x.size(0);
        x.size(99);
        x.trouble();
        Check.ledThrows(x, 0);
        Check.due("where", x.where(), 11);
        Check.due("trouble()", x.trouble(), 4);
    }

    // Promise 5, "NONE else.": of a new object; behind a call refused otherwise, a sound one, a loft refused by 2
    private static void noPlace() {
        GrudgeLoft x = new GrudgeLoft();
        Check.due("where of a new object", x.where(), -1);
        Check.loft(x, "loft wings 0");
        x.birds();
        Check.due("where behind another refusal", x.where(), -1);
        Check.loft(x, "loft wings 0");
        x.loft(1);
        Check.due("where behind a loft by 2", x.where(), -1);
        Check.loft(x, "loft wings 0");
        Check.loft(x, TWO);
        Check.due("where of a sound text", x.where(), -1);
        Check.loft(x, "loft wings 0");
        x.birds();
        Check.due("where behind a call that isn't refused", x.where(), -1);
    }
}
