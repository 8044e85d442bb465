/** Promises 49 to 57: ACTS, UNDO, IMAGES, what is told, TROUBLE. */
public final class ActsTest {
    public static void main(String[] args) {
        withoutTown();
        day();
        pay();
        payRefused();
        meet();
        meetRefused();
        undo();
        sixteenAreKept();
        images();
        led();
        size();
        trouble();
        troubleEnds();
        Check.end("ActsTest");
    }

    private static void withoutTown() {
        GrudgeLoft x = new GrudgeLoft();
        Check.refused(x, "day()", x.day(), 1);
        Check.refused(x, "pay(0, 0)", x.pay(0, 0), 1);
        Check.refused(x, "meet(0, 1)", x.meet(0, 1), 1);
        Check.refused(x, "image()", x.image(), 1);
        Check.due("undo()", x.undo(), false);
        Check.due("undo(): trouble", x.trouble(), 6);
        Check.due("back(0)", x.back(0), false);
        Check.due("back(0): trouble", x.trouble(), 1);
        Check.due("led(0) throws", Check.ledThrows(x, 0), true);
    }

    // Promise 49
    private static void day() {
        GrudgeLoft x = Check.town(Check.TOWN);
        int[] sitting = {0, 0, 2, 3, 4, 4};
        for (int i = 0; i < sitting.length; i++) {
            Check.granted(x, "day() " + i, x.day(), sitting[i]);
            Check.due("the day", x.size(7), i + 1);
        }
        x.pay(0, 12);
        Check.granted(x, "day(), one gone", x.day(), 3);
        // an object promises nothing behind 512 calls, but the edge is looked at all the same
        GrudgeLoft old = Check.town(Check.TOWN);
        Check.days(old, 998);
        Check.granted(old, "day() 999", old.day(), 4);
        Check.refused(old, "day() 1000", old.day(), 3);
        Check.due("the day stays", old.size(7), 999);
    }

    // Promise 50
    private static void pay() {
        GrudgeLoft x = Check.town(Check.TOWN);
        Check.days(x, 5);
        Check.granted(x, "pay(0, 5)", x.pay(0, 5), 7);
        Check.due("coins of bay", x.house(1, 1), 45);
        Check.due("coins of ash", x.house(0, 1), 20);
        Check.due("coins paid", x.size(8), 5);
        Check.due("where pip is", x.bird(0, 7), 2);
        Check.granted(x, "pay(0, 7)", x.pay(0, 7), 0);
        Check.due("where pip is, paid", x.bird(0, 7), 3);
        Check.due("birds", x.birds(), 0b1110);
        // poe SITS on cot, but bay pays
        Check.granted(x, "pay(3, 6)", x.pay(3, 6), 0);
        Check.due("coins of bay", x.house(1, 1), 32);
        Check.due("coins of cot", x.house(2, 1), 5);
        Check.due("coins paid in all", x.size(8), 18);
    }

    private static void payRefused() {
        GrudgeLoft x = Check.town(Check.TOWN);
        Check.refused(x, "pay in FLIGHT", x.pay(0, 1), 5);
        Check.refused(x, "pay in the loft", x.pay(1, 1), 5);
        Check.days(x, 5);
        Check.refused(x, "pay more than LEFT", x.pay(1, 6), 5);
        for (int coins : new int[] {0, -1, 1000, Integer.MAX_VALUE, Integer.MIN_VALUE}) {
            Check.refused(x, "pay(1, " + coins + ")", x.pay(1, coins), 2);
        }
        Check.refused(x, "pay(1, 999)", x.pay(1, 999), 5);
        Check.refused(x, "pay(4, 0)", x.pay(4, 0), 1);
        Check.refused(x, "pay(-1, 1)", x.pay(-1, 1), 1);
        Check.granted(x, "pay(1, 5)", x.pay(1, 5), 0);
        Check.refused(x, "pay for one gone", x.pay(1, 1), 5);
        Check.due("acts", x.size(9), 6);

        GrudgeLoft poor = Check.town(Check.LOFT + "house a at 0 coins 9;house b at 0 coins 4;"
                + "bird p plain from a to b day 0 wrong 6");
        Check.refused(poor, "pay(0, 5) of 4", poor.pay(0, 5), 6);
        Check.refused(poor, "pay(0, 7) of 4, LEFT 6", poor.pay(0, 7), 5);
        Check.due("nothing paid", poor.size(8), 0);
        Check.granted(poor, "pay(0, 4) of 4", poor.pay(0, 4), 2);
        Check.refused(poor, "pay(0, 1) of 0", poor.pay(0, 1), 6);
    }

    // Promise 51
    private static void meet() {
        GrudgeLoft x = Check.town(Check.TOWN);
        Check.granted(x, "meet(1, 0)", x.meet(1, 0), 7);
        Check.due("bay pays", x.house(1, 1), 43);
        Check.due("ash doesn't", x.house(0, 1), 20);
        Check.due("coins paid", x.size(8), 7);
        Check.due("birds", x.birds(), 0b1100);
        Check.due("acts", x.size(9), 1);
        GrudgeLoft like = Check.town(Check.LOFT + "house a at 0 coins 0;house b at 0 coins 0;"
                + "bird p plain from a to b day 30 wrong 6;bird q proud from b to a day 0 wrong 3");
        Check.granted(like, "meet for nothing", like.meet(0, 1), 0);
        Check.due("all gone", like.birds(), 0);
        GrudgeLoft lesser = Check.town(Check.LOFT + "house a at 0 coins 9;house b at 0 coins 9;"
                + "bird p plain from a to b day 0 wrong 2;bird q plain from b to a day 0 wrong 6");
        Check.granted(lesser, "meet(0, 1), the second has more", lesser.meet(0, 1), 4);
        Check.due("a pays", lesser.house(0, 1), 5);
        Check.due("b doesn't", lesser.house(1, 1), 9);
    }

    private static void meetRefused() {
        GrudgeLoft x = Check.town(Check.TOWN);
        Check.refused(x, "meet(0, 0)", x.meet(0, 0), 1);
        Check.refused(x, "meet(0, 4)", x.meet(0, 4), 1);
        Check.refused(x, "meet(-1, 0)", x.meet(-1, 0), 1);
        Check.refused(x, "meet(0, 2)", x.meet(0, 2), 5);
        Check.refused(x, "meet(0, 3)", x.meet(0, 3), 5);
        x.meet(1, 3);
        Check.refused(x, "meet of one gone", x.meet(0, 1), 5);
        GrudgeLoft poor = Check.town(Check.LOFT + "house a at 0 coins 3;house b at 0 coins 9;"
                + "bird p plain from a to b day 0 wrong 2;bird q plain from b to a day 0 wrong 6");
        Check.refused(poor, "meet for 4 of 3", poor.meet(0, 1), 6);
        Check.due("none is gone", poor.birds(), 0b11);
        Check.due("no act", poor.size(9), 0);
        poor.pay(1, 1);
        Check.refused(poor, "meet for 3 of 2", poor.meet(0, 1), 6);
    }

    // Promise 52
    private static void undo() {
        GrudgeLoft x = Check.town(Check.TOWN);
        Check.days(x, 4);
        x.pay(0, 12);
        x.meet(1, 3);
        Check.due("acts", x.size(9), 6);
        Check.due("undo of meet", x.undo(), true);
        Check.due("undo of meet: trouble", x.trouble(), 0);
        Check.due("birds, meet undone", x.birds(), 0b1110);
        Check.due("coins, meet undone", x.size(8), 12);
        Check.due("undo of pay", x.undo(), true);
        Check.due("birds, pay undone", x.birds(), 0b1111);
        Check.due("coins of bay, pay undone", x.house(1, 1), 50);
        Check.due("LEFT, pay undone", x.bird(0, 6), 12);
        Check.due("coins, pay undone", x.size(8), 0);
        Check.due("WHITE", x.house(0, 2), 3);
        Check.due("undo of day", x.undo(), true);
        Check.due("WHITE, day undone", x.house(0, 2), 1);
        Check.due("day, day undone", x.size(7), 3);
        Check.due("acts", x.size(9), 3);
        for (int i = 0; i < 3; i++) {
            Check.due("undo", x.undo(), true);
        }
        Check.due("undo of nothing", x.undo(), false);
        Check.due("undo of nothing: trouble", x.trouble(), 6);
        Check.due("day", x.size(7), 0);
        x.pay(0, 1);
        Check.due("a refused act isn't kept", x.undo(), false);
    }

    private static void sixteenAreKept() {
        GrudgeLoft x = Check.town(Check.TOWN);
        Check.days(x, 20);
        Check.due("acts", x.size(9), 16);
        for (int i = 1; i <= 16; i++) {
            Check.due("undo " + i, x.undo(), true);
            Check.due("the day", x.size(7), 20 - i);
            Check.due("acts", x.size(9), 16 - i);
        }
        Check.due("undo 17", x.undo(), false);
        Check.due("the day", x.size(7), 4);
        Check.due("WHITE", x.house(0, 2), 3);
        Check.days(x, 2);
        Check.due("undo behind undoing", x.undo(), true);
        Check.due("the day", x.size(7), 5);
    }

    // Promises 53, 54
    private static void images() {
        GrudgeLoft x = Check.town(Check.TOWN);
        Check.granted(x, "image()", x.image(), 0);
        Check.days(x, 4);
        x.pay(0, 12);
        Check.granted(x, "image()", x.image(), 1);
        Check.due("acts stay by an image", x.size(9), 5);
        x.meet(1, 3);
        Check.granted(x, "image()", x.image(), 2);
        Check.refused(x, "image() without room", x.image(), 3);
        Check.due("images", x.size(10), 3);
        Check.due("back(0)", x.back(0), true);
        Check.due("back(0): trouble", x.trouble(), 0);
        Check.due("day", x.size(7), 0);
        Check.due("birds", x.birds(), 0b1111);
        Check.due("coins of bay", x.house(1, 1), 50);
        Check.due("WHITE", x.house(0, 2), 0);
        Check.due("nothing to undo", x.undo(), false);
        Check.due("images stay", x.size(10), 3);
        x.day();
        Check.due("acts behind back", x.size(9), 1);
        Check.due("back(2)", x.back(2), true);
        Check.due("birds, image 2", x.birds(), 0b0100);
        Check.due("coins paid, image 2", x.size(8), 13);
        Check.due("back(1)", x.back(1), true);
        Check.due("day, image 1", x.size(7), 4);
        Check.due("LEFT, image 1", x.bird(0, 6), 0);
        Check.due("WHITE, image 1", x.house(0, 2), 3);
        Check.due("acts, image 1", x.size(9), 0);
        x.day();
        for (int number : new int[] {-1, 3, Integer.MAX_VALUE, Integer.MIN_VALUE}) {
            Check.due("back(" + number + ")", x.back(number), false);
            Check.due("back(" + number + "): trouble", x.trouble(), 1);
        }
        Check.due("acts behind a refused back", x.size(9), 1);
    }

    // Promise 55
    private static void led() {
        GrudgeLoft x = Check.town(Check.TOWN);
        Check.due("led(0) of none throws", Check.ledThrows(x, 0), true);
        Check.days(x, 5);
        x.pay(2, 8);
        Check.due("led(0)", x.led(0), 2);
        x.meet(0, 1);
        x.bird(9, 9);
        int[] due = {0, 1, 2};
        for (int i = 0; i < due.length; i++) {
            Check.due("led(" + i + ")", x.led(i), due[i]);
        }
        for (int i : new int[] {-1, 3, 7, Integer.MAX_VALUE, Integer.MIN_VALUE}) {
            Check.due("led(" + i + ") throws", Check.ledThrows(x, i), true);
        }
        Check.due("led leaves TROUBLE", x.trouble(), 1);
        x.undo();
        Check.due("led(1) throws, undone", Check.ledThrows(x, 1), true);
    }

    // Promise 56
    private static void size() {
        GrudgeLoft x = Check.town(Check.TOWN + ";stray s from ash day 0;stray t from ash day 0;seen ash day 0 birds 0;"
                + "seen ash day 1 birds 0;seen ash day 2 birds 0");
        Check.days(x, 5);
        x.pay(0, 3);
        x.image();
        x.feed(0, 0, 0, 0, 0);
        x.feed(0, 0, 0, 0, 0);
        int[] due = {10, 25, 40, 3, 4, 2, 3, 5, 3, 6, 1, 40};
        x.undo();
        x.pay(0, 3);
        x.bird(9, 9);
        for (int what = 0; what < due.length; what++) {
            Check.due("size(" + what + ")", x.size(what), due[what]);
        }
        for (int what : new int[] {-1, 12, Integer.MAX_VALUE, Integer.MIN_VALUE}) {
            Check.due("size(" + what + ")", x.size(what), -1);
        }
        Check.due("size leaves TROUBLE", x.trouble(), 1);
    }

    // Promise 57
    private static void trouble() {
        GrudgeLoft x = Check.town(Check.TOWN);
        Check.due("trouble() of a loft", x.trouble(), 0);
        x.house(9, 0);
        Check.due("1", x.trouble(), 1);
        x.feed(0, 0, 0, 0, 0);
        x.fault();
        x.where();
        x.size(99);
        x.trouble();
        Check.due("1 behind calls that can't be refused", x.trouble(), 1);
        x.most(1000);
        Check.due("2", x.trouble(), 2);
        for (int i = 0; i < 4; i++) {
            x.image();
        }
        Check.due("3", x.trouble(), 3);
        x.loft(20);
        Check.due("4", x.trouble(), 4);
        x.pay(0, 1);
        Check.due("5", x.trouble(), 5);
        x.undo();
        Check.due("6", x.trouble(), 6);
        x.meeting(0, 2);
        Check.due("-2 is no refusal", x.trouble(), 0);
    }

    private static void troubleEnds() {
        GrudgeLoft x = Check.town(Check.TOWN);
        Check.days(x, 5);
        x.image();
        x.house(9, 0);
        Check.granted(x, "safe() behind a refusal", x.safe(0, 0, true), 1);
        x.house(9, 0);
        Check.granted(x, "left() behind a refusal", x.left(0, 7, true), 1);
        x.house(9, 0);
        Check.granted(x, "stays() behind a refusal", x.stays(0, true), 1);
        x.house(9, 0);
        Check.granted(x, "pay() behind a refusal", x.pay(0, 1), 11);
        x.house(9, 0);
        Check.granted(x, "undo() behind a refusal", x.undo() ? 1 : 0, 1);
        x.house(9, 0);
        Check.granted(x, "back() behind a refusal", x.back(0) ? 1 : 0, 1);
        x.house(9, 0);
        Check.granted(x, "loft() behind a refusal", Check.loft(x, Check.TOWN), 3);
    }
}
