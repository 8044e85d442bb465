/** Promises 55 to 57 and Terms IV: what is told, TROUBLE. */
public final class ToldTest {
    private static final String TOLD = Check.TOWN + ";stray s from ash day 0;stray t from ash day 0;"
            + "seen ash day 0 birds 0;seen ash day 1 birds 0;seen ash day 2 birds 0";

    public static void main(String[] args) {
        ledByNumbers();
        ledThrows();
        ledLeavesTrouble();
        sizesOfATown();
        sizesOfActs();
        sizeOfTheTape();
        sizesThereAreNot();
        sizesOfOthers();
        sizeLeavesTrouble();
        troubleNone();
        troubleNoSuch();
        troubleNumber();
        troubleNoRoom();
        troubleFault();
        troubleNotSo();
        troubleThereIsNone();
        troubleOfTheLatest();
        troubleEndsByAnyGranted();
        troubleNotByOtherCalls();
        minusTwoIsNoRefusal();
        Check.end("ToldTest");
    }

    // Promise 55, "The i-th bird, by numbers, that is gone.": not in the order in which they went; by coins, MEETINGS
    private static void ledByNumbers() {
        GrudgeLoft x = Check.town(Check.TOWN);
        Check.days(x, 5);
        x.pay(3, 6);
        Check.due("led(0) of one", x.led(0), 3);
        x.meet(1, 0);
        int[] due = {0, 1, 3};
        for (int i = 0; i < due.length; i++) {
            Check.due("led(" + i + ")", x.led(i), due[i]);
        }
        GrudgeLoft y = Check.town(Check.FULL);
        Check.days(y, 7);
        for (int b = 6; b >= 0; b--) {
            y.pay(b, 7 - b);
        }
        for (int i = 0; i < 7; i++) {
            Check.due("led(" + i + ") of seven", y.led(i), i);
        }
        Check.due("led(7) of seven throws", Check.ledThrows(y, 7), true);
    }

    // Promise 55, "NoSuchElementException if there is none such.": no TOWN, none gone, i too small, too large, undone
    private static void ledThrows() {
        GrudgeLoft none = new GrudgeLoft();
        Check.due("led(0), no town, throws", Check.ledThrows(none, 0), true);
        GrudgeLoft x = Check.town(Check.TOWN);
        Check.due("led(0), none gone, throws", Check.ledThrows(x, 0), true);
        x.meet(0, 1);
        for (int i : new int[] {-1, 2, 4, 7, Integer.MAX_VALUE, Integer.MIN_VALUE}) {
            Check.due("led(" + i + ") throws", Check.ledThrows(x, i), true);
        }
        Check.due("led(1)", x.led(1), 1);
        x.undo();
        Check.due("led(0), undone, throws", Check.ledThrows(x, 0), true);
    }

    // Terms IV, "(those of which a number is told here)": of led() none is, so it leaves TROUBLE as it was
    private static void ledLeavesTrouble() {
        GrudgeLoft x = Check.town(Check.TOWN);
        Check.due("led(0) throws", Check.ledThrows(x, 0), true);
        Check.due("TROUBLE 0 stays", x.trouble(), 0);
        x.meet(0, 1);
        x.undo();
        x.undo();
        Check.due("led(0) throws", Check.ledThrows(x, 0), true);
        Check.due("TROUBLE 6 stays", x.trouble(), 6);
        x.meet(0, 1);
        x.house(9, 9);
        x.led(0);
        Check.due("TROUBLE 1 stays", x.trouble(), 1);
    }

    // Promise 56, "0 wings, 1 hawks, 2 storm, 3 houses, 4 birds, 5 strays, 6 seen": as told, whoever is gone
    private static void sizesOfATown() {
        GrudgeLoft x = Check.town(TOLD);
        x.meet(0, 1);
        int[] due = {10, 25, 40, 3, 4, 2, 3};
        for (int what = 0; what < due.length; what++) {
            Check.due("size(" + what + ")", x.size(what), due[what]);
        }
    }

    // Promise 56, "7 the day NOW, 8 coins paid so far, 9 ACTS that can be undone, 10 IMAGES": for birds and MEETINGS
    private static void sizesOfActs() {
        GrudgeLoft x = Check.town(TOLD);
        int[][] due = {{0, 0, 0, 0}, {5, 0, 5, 0}, {5, 3, 6, 0}, {5, 4, 7, 0}, {5, 4, 7, 1}, {5, 3, 6, 1},
            {5, 4, 0, 1}};
        for (int step = 0; step < due.length; step++) {
            for (int what = 7; what <= 10; what++) {
                Check.due("size(" + what + "), step " + step, x.size(what), due[step][what - 7]);
            }
            switch (step) {
                case 0: Check.days(x, 5); break;
                case 1: x.pay(0, 3); break;
                case 2: x.meet(1, 3); break;
                case 3: x.image(); break;
                case 4: x.undo(); break;
                default: x.back(0); break;
            }
        }
    }

    // Promise 56, "11 bytes of THE TAPE.": none, as fed, none behind a loft
    private static void sizeOfTheTape() {
        GrudgeLoft x = Check.town(TOLD);
        Check.due("size(11)", x.size(11), 0);
        x.feed(0, 0, 0, 0, 0);
        x.feed(0, 0, 0, 0, 0);
        Check.due("size(11), fed twice", x.size(11), 40);
        x.loft(41);
        Check.due("size(11), loft by 2", x.size(11), 40);
        x.loft(0);
        Check.due("size(11), loft by 4", x.size(11), 0);
    }

    // Promise 56, "0 for what there isn't.": ahead of the first loft, in a TOWN without birds, strays, seen
    private static void sizesThereAreNot() {
        GrudgeLoft none = new GrudgeLoft();
        for (int what = 0; what <= 11; what++) {
            Check.due("size(" + what + "), no town", none.size(what), 0);
        }
        GrudgeLoft x = Check.town(Check.NO_BIRDS);
        for (int what = 4; what <= 11; what++) {
            Check.due("size(" + what + "), no birds", x.size(what), 0);
        }
    }

    // Promise 56, "NONE for others;": one too small, one too large, with a TOWN and without
    private static void sizesOfOthers() {
        GrudgeLoft none = new GrudgeLoft();
        GrudgeLoft x = Check.town(TOLD);
        for (int what : new int[] {-1, 12, Integer.MAX_VALUE, Integer.MIN_VALUE}) {
            Check.due("size(" + what + "), no town", none.size(what), -1);
            Check.due("size(" + what + ")", x.size(what), -1);
        }
    }

    // Terms IV, "(those of which a number is told here)": of size() none is, so it leaves TROUBLE as it was
    private static void sizeLeavesTrouble() {
        GrudgeLoft x = Check.town(TOLD);
        x.size(12);
        Check.due("TROUBLE 0 stays", x.trouble(), 0);
        x.house(9, 9);
        x.size(12);
        x.size(0);
        Check.due("TROUBLE 1 stays", x.trouble(), 1);
    }

    // Terms IV, "0 it wasn't;": behind a call that wasn't refused, and ahead of all
    private static void troubleNone() {
        GrudgeLoft none = new GrudgeLoft();
        Check.due("TROUBLE of a new object", none.trouble(), 0);
        GrudgeLoft x = Check.town(TOLD);
        Check.due("TROUBLE of a loft", x.trouble(), 0);
        x.house(9, 9);
        x.house(0, 0);
        Check.due("TROUBLE of a house", x.trouble(), 0);
    }

    // Terms IV, "1 there is none such;": a house, a bird, a stray, an IMAGE, a TOWN
    private static void troubleNoSuch() {
        GrudgeLoft x = Check.town(TOLD);
        Check.refused(x, "house(3, 0)", () -> x.house(3, 0), 1);
        Check.refused(x, "bird(4, 0)", () -> x.bird(4, 0), 1);
        Check.refused(x, "could(2)", () -> x.could(2), 1);
        Check.refused(x, "back(0)", () -> x.back(0), 1);
        GrudgeLoft none = new GrudgeLoft();
        Check.refused(none, "peace()", none::peace, 1);
    }

    // Terms IV, "2 a number;": one out of bounds
    private static void troubleNumber() {
        GrudgeLoft x = Check.town(TOLD);
        Check.refused(x, "most(1000)", () -> x.most(1000), 2);
        Check.refused(x, "loft(1)", () -> x.loft(1), 2);
        Check.refused(x, "pay(0, 0)", () -> x.pay(0, 0), 2);
    }

    // Terms IV, "3 no room;": for IMAGES
    private static void troubleNoRoom() {
        GrudgeLoft x = Check.town(TOLD);
        for (int i = 0; i < 3; i++) {
            Check.granted(x, "image()", x::image, i);
        }
        Check.refused(x, "image()", x::image, 3);
    }

    // Terms IV, "4 a FAULT;": whatever its own number is
    private static void troubleFault() {
        String[] texts = {"loft", "loft wings 0", "house a", Check.FULL + ";house"};
        int[] faults = {1, 4, 6, 5};
        GrudgeLoft x = new GrudgeLoft();
        for (int i = 0; i < texts.length; i++) {
            String text = texts[i];
            Check.feed(x, text);
            Check.refused(x, "loft of '" + text + "'", () -> x.loft(text.length()), 4);
            Check.due("fault of '" + text + "'", x.fault(), faults[i]);
        }
    }

    // Terms IV, "5 not so;": of a bird in FLIGHT, of two that can't MEET
    private static void troubleNotSo() {
        GrudgeLoft x = Check.town(TOLD);
        Check.refused(x, "pay(0, 1)", () -> x.pay(0, 1), 5);
        Check.refused(x, "meet(0, 2)", () -> x.meet(0, 2), 5);
        Check.refused(x, "safe(0, 1, true)", () -> x.safe(0, 1, true), 5);
    }

    // Terms IV, "6 there is none.": nothing to undo, no coins to pay
    private static void troubleThereIsNone() {
        GrudgeLoft x = Check.town("loft wings 1 hawks 0 storm 0;house a at 0 coins 0;house b at 0 coins 0;"
                + "bird p plain from a to b day 0 wrong 2;bird q plain from b to a day 0 wrong 1");
        Check.refused(x, "undo()", x::undo, 6);
        Check.refused(x, "pay(0, 1)", () -> x.pay(0, 1), 6);
        Check.refused(x, "meet(0, 1)", () -> x.meet(0, 1), 6);
    }

    // Promise 57, "TROUBLE.": of the latest call that may be refused, however often it is asked
    private static void troubleOfTheLatest() {
        GrudgeLoft x = Check.town(TOLD);
        x.house(9, 9);
        x.most(1000);
        Check.due("trouble()", x.trouble(), 2);
        Check.due("trouble() once more", x.trouble(), 2);
        x.undo();
        Check.due("trouble() of undo", x.trouble(), 6);
        x.safe(0, 1, true);
        Check.due("trouble() of safe", x.trouble(), 5);
    }

    // Terms IV, "TROUBLE of the latest call that may be refused": each that isn't ends it
    private static void troubleEndsByAnyGranted() {
        GrudgeLoft x = Check.town(TOLD);
        Check.days(x, 5);
        Check.granted(x, "safe()", () -> x.safe(0, 0, true), 1);
        Check.granted(x, "left()", () -> x.left(0, 7, true), 1);
        Check.granted(x, "stays()", () -> x.stays(0, true), 1);
        Check.granted(x, "pay()", () -> x.pay(0, 1), 11);
        Check.granted(x, "meet()", () -> x.meet(1, 3), 1);
        Check.granted(x, "day()", x::day, 2);
        Check.granted(x, "undo()", x::undo);
        Check.granted(x, "image()", x::image, 0);
        Check.granted(x, "back()", () -> x.back(0));
        Check.feed(x, Check.TOWN);
        Check.granted(x, "loft()", () -> x.loft(Check.TOWN.length()), 3);
    }

    // Terms IV, "(those of which a number is told here)": feed, fault, where, trouble change it no more than it is told
    private static void troubleNotByOtherCalls() {
        GrudgeLoft x = Check.town(TOLD);
        x.house(9, 9);
        x.feed(0, 0, 0, 0, 0);
        x.fault();
        x.where();
        x.trouble();
        Check.due("TROUBLE 1 stays", x.trouble(), 1);
    }

    // Terms IV, "0 it wasn't;": an answer of -2 is none that was refused
    private static void minusTwoIsNoRefusal() {
        GrudgeLoft x = Check.town(TOLD);
        Check.granted(x, "meeting(0, 2)", () -> x.meeting(0, 2), -2);
        Check.granted(x, "ring(2)", () -> x.ring(2), -2);
        Check.granted(x, "coinsFor(7)", () -> x.coinsFor(7), -2);
        Check.granted(x, "judge()", x::judge, -2);
        Check.granted(x, "last(65536)", () -> x.last(65_536), -2);
    }
}
