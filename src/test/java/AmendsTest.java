/** Promises 19 to 32: meetings, what is owed, PEACE, MOST, rings. */
public final class AmendsTest {
    private static final String THREE = Check.HOUSES;

    public static void main(String[] args) {
        withoutTown();
        mayMeet();
        meeting();
        owes();
        poor();
        peace();
        peaceOfLikeCoins();
        most();
        coinsFor();
        rings();
        firstRing();
        payable();
        bestMeeting();
        feud();
        Check.end("AmendsTest");
    }

    private static void withoutTown() {
        GrudgeLoft x = new GrudgeLoft();
        Check.refused(x, "mayMeet(0)", x.mayMeet(0), 1);
        Check.refused(x, "meeting(0, 1)", x.meeting(0, 1), 1);
        Check.refused(x, "owes(0)", x.owes(0), 1);
        Check.refused(x, "poor()", x.poor(), 1);
        Check.refused(x, "peace()", x.peace(), 1);
        Check.refused(x, "mate(0)", x.mate(0), 1);
        Check.refused(x, "peaces()", x.peaces(), 1);
        Check.refused(x, "most(-1)", x.most(-1), 1);
        Check.refused(x, "coinsFor(-1)", x.coinsFor(-1), 1);
        Check.refused(x, "ring(0)", x.ring(0), 1);
        Check.refused(x, "ringAt(0, 0)", x.ringAt(0, 0), 1);
        Check.refused(x, "payable(0)", x.payable(0), 1);
        Check.refused(x, "bestMeeting()", x.bestMeeting(), 1);
        Check.refused(x, "feud(0, 1)", x.feud(0, 1), 1);
    }

    // Promise 19
    private static void mayMeet() {
        GrudgeLoft x = Check.town(Check.TOWN);
        int[] due = {0b0010, 0b1001, 0, 0b0010};
        for (int b = 0; b < due.length; b++) {
            Check.granted(x, "mayMeet(" + b + ")", x.mayMeet(b), due[b]);
        }
        x.meet(3, 1);
        Check.granted(x, "mayMeet(0), pat gone", x.mayMeet(0), 0);
        Check.granted(x, "mayMeet(1), gone", x.mayMeet(1), 0);
        Check.refused(x, "mayMeet(4)", x.mayMeet(4), 1);
        Check.refused(x, "mayMeet(-1)", x.mayMeet(-1), 1);
    }

    // Promise 20
    private static void meeting() {
        GrudgeLoft x = Check.town(Check.TOWN);
        Check.granted(x, "meeting(0, 1)", x.meeting(0, 1), 7);
        Check.granted(x, "meeting(1, 0)", x.meeting(1, 0), 7);
        Check.granted(x, "meeting(0, 2)", x.meeting(0, 2), -2);
        Check.granted(x, "meeting(0, 3), of one side", x.meeting(0, 3), -2);
        Check.refused(x, "meeting(0, 0)", x.meeting(0, 0), 1);
        Check.refused(x, "meeting(0, 4)", x.meeting(0, 4), 1);
        Check.refused(x, "meeting(-1, 0)", x.meeting(-1, 0), 1);
        Check.days(x, 3);
        x.pay(0, 9);
        Check.due("meeting(0, 1), 9 paid", x.meeting(0, 1), 2);
        x.meet(1, 3);
        Check.granted(x, "meeting(0, 1), one gone", x.meeting(0, 1), -2);
        Check.granted(x, "meeting(3, 1), both gone", x.meeting(3, 1), -2);
    }

    // Promise 21
    private static void owes() {
        GrudgeLoft x = Check.town(Check.TOWN);
        Check.granted(x, "owes(0)", x.owes(0), 13);
        Check.granted(x, "owes(1)", x.owes(1), 18);
        Check.granted(x, "owes(2)", x.owes(2), 0);
        Check.refused(x, "owes(3)", x.owes(3), 1);
        Check.refused(x, "owes(-1)", x.owes(-1), 1);
        Check.days(x, 3);
        x.pay(0, 4);
        Check.due("owes(1), 4 paid", x.owes(1), 14);
        x.meet(1, 3);
        Check.due("owes(1), one gone", x.owes(1), 8);
        Check.due("owes(0), one gone", x.owes(0), 8);
    }

    // Promise 22
    private static void poor() {
        GrudgeLoft x = Check.town(Check.TOWN);
        Check.granted(x, "poor()", x.poor(), 0);
        GrudgeLoft y = Check.town(Check.LOFT + "house a at 0 coins 4;house b at 9 coins 5;house c at 9 coins 0;"
                + "bird p plain from a to b day 0 wrong 5;bird q plain from b to a day 0 wrong 5;"
                + "bird r plain from b to c day 0 wrong 1");
        Check.granted(y, "poor(), 4 of 5, 5 of 5, 0 of 1", y.poor(), 0b101);
        y.meet(0, 1);
        Check.due("poor(), two met", y.poor(), 0b100);
    }

    // Promises 23 to 25
    private static void peace() {
        GrudgeLoft x = Check.town(Check.TOWN);
        Check.granted(x, "peace()", x.peace(), 21);
        Check.granted(x, "peaces()", x.peaces(), 2);
        int[] mates = {-2, 3, -2, 1};
        for (int b = 0; b < mates.length; b++) {
            Check.granted(x, "mate(" + b + ")", x.mate(b), mates[b]);
        }
        Check.refused(x, "mate(4)", x.mate(4), 1);
        Check.refused(x, "mate(-1)", x.mate(-1), 1);
        Check.days(x, 5);
        x.pay(3, 3);
        Check.due("peace(), 3 paid for poe", x.peace(), 7 + 8 + 3);
        Check.due("mate(0), 3 paid for poe", x.mate(0), 1);
        Check.due("mate(3), 3 paid for poe", x.mate(3), -2);
        Check.due("peaces(), 3 paid for poe", x.peaces(), 1);
        x.meet(0, 1);
        Check.due("peace(), two gone", x.peace(), 11);
        Check.due("mate(0), gone", x.mate(0), -2);
        Check.due("peaces(), two gone", x.peaces(), 1);
        x.pay(3, 3);
        x.pay(2, 8);
        Check.granted(x, "peace(), all gone", x.peace(), 0);
        Check.granted(x, "peaces(), all gone", x.peaces(), 1);

        // poor houses make no difference to PEACE
        GrudgeLoft y = Check.town(Check.LOFT + "house a at 0 coins 0;house b at 9 coins 0;"
                + "bird p plain from a to b day 0 wrong 5;bird q plain from b to a day 0 wrong 9");
        Check.due("peace() of the poor", y.peace(), 4);
    }

    private static void peaceOfLikeCoins() {
        // two for b, two for a, all LEFTS 5: both ways of two MEETINGS are paid by nobody
        GrudgeLoft x = Check.town(THREE + "bird p plain from ash to bay day 0 wrong 5;"
                + "bird q plain from bay to ash day 0 wrong 5;bird r plain from ash to bay day 0 wrong 5;"
                + "bird s plain from bay to ash day 0 wrong 5");
        Check.due("peace() for nothing", x.peace(), 0);
        Check.due("peaces() for nothing", x.peaces(), 2);
        int[] mates = {1, 0, 3, 2};
        for (int b = 0; b < mates.length; b++) {
            Check.due("mate(" + b + ") for nothing", x.mate(b), mates[b]);
        }
        // q with p, r or s spares as much: p is rather alone, then q is rather with r, of the lesser number
        GrudgeLoft y = Check.town(THREE + "bird p plain from ash to bay day 0 wrong 9;"
                + "bird q plain from bay to ash day 0 wrong 4;bird r plain from ash to bay day 0 wrong 7;"
                + "bird s plain from ash to bay day 0 wrong 5");
        Check.due("peace() of three ways", y.peace(), 17);
        Check.due("peaces() of three ways", y.peaces(), 3);
        Check.due("mate(0), rather alone", y.mate(0), -2);
        Check.due("mate(1), rather with r", y.mate(1), 2);
        Check.due("mate(2)", y.mate(2), 1);
        Check.due("mate(3)", y.mate(3), -2);
    }

    // Promise 26
    private static void most() {
        GrudgeLoft x = Check.town(Check.TOWN);
        int[][] due = {{0, 0}, {4, 0}, {5, 0b0010}, {10, 0b0010}, {11, 0b1010}, {18, 0b1010}, {19, 0b1110},
            {30, 0b1110}, {31, 0b1111}, {999, 0b1111}};
        for (int[] row : due) {
            Check.granted(x, "most(" + row[0] + ")", x.most(row[0]), row[1]);
        }
        for (int coins : new int[] {-1, 1000, Integer.MAX_VALUE, Integer.MIN_VALUE}) {
            Check.refused(x, "most(" + coins + ")", x.most(coins), 2);
        }
        x.meet(1, 3);
        Check.due("most(10), two gone", x.most(10), 0b0100);
        // of like LEFTS the least bits
        GrudgeLoft y = Check.town(THREE + "bird p plain from ash to bay day 0 wrong 9;"
                + "bird q plain from bay to ash day 0 wrong 4;bird r plain from ash to bay day 0 wrong 4;"
                + "bird s plain from ash to bay day 0 wrong 4");
        Check.due("most(7) of like ones", y.most(7), 0b0010);
        Check.due("most(8) of like ones", y.most(8), 0b0110);
    }

    // Promise 27
    private static void coinsFor() {
        GrudgeLoft x = Check.town(Check.TOWN);
        int[] due = {0, 5, 11, 19, 31, -2, -2, -2};
        for (int many = 0; many < due.length; many++) {
            Check.granted(x, "coinsFor(" + many + ")", x.coinsFor(many), due[many]);
        }
        for (int many : new int[] {-1, 8, Integer.MAX_VALUE, Integer.MIN_VALUE}) {
            Check.refused(x, "coinsFor(" + many + ")", x.coinsFor(many), 2);
        }
        x.meet(1, 3);
        Check.due("coinsFor(1), two gone", x.coinsFor(1), 8);
        Check.due("coinsFor(3), two gone", x.coinsFor(3), -2);
    }

    // Promises 28, 29
    private static void rings() {
        // b wronged a (a bird from a FOR b), c wronged b, a wronged c: the ring goes a, c, b
        GrudgeLoft x = Check.town(THREE + "bird p plain from ash to bay day 0 wrong 1;"
                + "bird q plain from bay to cot day 0 wrong 1;bird r plain from cot to ash day 0 wrong 1");
        int[][] due = {{0, 2, 1}, {1, 0, 2}, {2, 1, 0}};
        for (int h = 0; h < 3; h++) {
            Check.granted(x, "ring(" + h + ")", x.ring(h), 3);
            for (int i = 0; i < 3; i++) {
                Check.granted(x, "ringAt(" + h + ", " + i + ")", x.ringAt(h, i), due[h][i]);
            }
            for (int i : new int[] {-1, 3, Integer.MAX_VALUE, Integer.MIN_VALUE}) {
                Check.refused(x, "ringAt(" + h + ", " + i + ")", x.ringAt(h, i), 1);
            }
        }
        Check.refused(x, "ring(3)", x.ring(3), 1);
        Check.refused(x, "ring(-1)", x.ring(-1), 1);
        Check.refused(x, "ringAt(3, 0)", x.ringAt(3, 0), 1);
        Check.days(x, 3);
        x.pay(0, 1);
        Check.granted(x, "ring(0), one gone", x.ring(0), -2);
        Check.refused(x, "ringAt(0, 0), one gone", x.ringAt(0, 0), 1);

        GrudgeLoft y = Check.town(Check.TOWN);
        Check.due("ring of two", y.ring(0), 2);
        Check.due("ringAt of two", y.ringAt(1, 1), 0);
        Check.granted(y, "ring of none", y.ring(2), -2);
        Check.refused(y, "ringAt of none", y.ringAt(2, 0), 1);
    }

    private static void firstRing() {
        // from a: by b and d, by c and d; and a longer one by b, c and d
        GrudgeLoft x = Check.town(Check.LOFT + "house a at 0 coins 1;house b at 1 coins 1;house c at 2 coins 1;"
                + "house d at 3 coins 1;bird p plain from c to a day 0 wrong 1;bird q plain from d to c day 0 wrong 1;"
                + "bird r plain from b to a day 0 wrong 1;bird s plain from d to b day 0 wrong 1;"
                + "bird t plain from a to d day 0 wrong 1;bird u plain from c to b day 0 wrong 1");
        Check.due("ring(0) of two like ones", x.ring(0), 3);
        int[][] due = {{0, 1, 3}, {1, 3, 0}, {2, 3, 0}, {3, 0, 1}};
        for (int h = 0; h < 4; h++) {
            for (int i = 0; i < 3; i++) {
                Check.due("ringAt(" + h + ", " + i + ") of like ones", x.ringAt(h, i), due[h][i]);
            }
        }
        // all six in one ring
        GrudgeLoft y = Check.town(Check.LOFT + "house a at 0 coins 1;house b at 1 coins 1;house c at 2 coins 1;"
                + "house d at 3 coins 1;house e at 4 coins 1;house f at 5 coins 1;"
                + "bird p plain from a to b day 0 wrong 1;bird q plain from b to c day 0 wrong 1;"
                + "bird r plain from c to d day 0 wrong 1;bird s plain from d to e day 0 wrong 1;"
                + "bird t plain from e to f day 0 wrong 1;bird u plain from f to a day 0 wrong 1");
        Check.due("ring(0) of six", y.ring(0), 6);
        for (int i = 0; i < 6; i++) {
            Check.due("ringAt(2, " + i + ") of six", y.ringAt(2, i), (8 - i) % 6);
        }
    }

    // Promise 30
    private static void payable() {
        GrudgeLoft x = Check.town(Check.TOWN);
        Check.granted(x, "payable(0)", x.payable(0), 0b0110);
        Check.granted(x, "payable(1)", x.payable(1), 0b1001);
        Check.granted(x, "payable(2)", x.payable(2), 0);
        Check.refused(x, "payable(3)", x.payable(3), 1);
        Check.refused(x, "payable(-1)", x.payable(-1), 1);
        GrudgeLoft y = Check.town(Check.LOFT + "house a at 0 coins 9;house b at 0 coins 12;"
                + "bird p plain from a to b day 0 wrong 7;bird q plain from a to b day 0 wrong 6;"
                + "bird r plain from a to b day 0 wrong 6;bird s plain from b to a day 0 wrong 1");
        Check.due("payable of 12", y.payable(1), 0b0110);
        y.pay(0, 1);
        Check.due("payable of 11", y.payable(1), 0b0001);
        y.pay(0, 6);
        Check.due("payable of 5", y.payable(1), 0);
    }

    // Promise 31
    private static void bestMeeting() {
        GrudgeLoft x = Check.town(Check.TOWN);
        Check.granted(x, "bestMeeting() of like ones", x.bestMeeting(), 1);
        Check.days(x, 5);
        x.pay(0, 8);
        Check.due("bestMeeting(), 8 paid for pip", x.bestMeeting(), 13);
        x.meet(1, 3);
        Check.granted(x, "bestMeeting() of none", x.bestMeeting(), -2);
    }

    // Promise 32
    private static void feud() {
        GrudgeLoft x = Check.town(Check.TOWN);
        Check.granted(x, "feud(0, 1)", x.feud(0, 1), 18);
        Check.granted(x, "feud(1, 0)", x.feud(1, 0), 5);
        Check.granted(x, "feud(2, 0)", x.feud(2, 0), 8);
        Check.granted(x, "feud(0, 2)", x.feud(0, 2), 0);
        Check.refused(x, "feud(1, 1)", x.feud(1, 1), 1);
        Check.refused(x, "feud(1, 3)", x.feud(1, 3), 1);
        Check.refused(x, "feud(-1, 1)", x.feud(-1, 1), 1);
        Check.days(x, 3);
        x.pay(0, 2);
        Check.due("feud(0, 1), 2 paid", x.feud(0, 1), 16);
        x.meet(1, 0);
        Check.due("feud(0, 1), pip gone", x.feud(0, 1), 6);
        Check.due("feud(1, 0), pat gone", x.feud(1, 0), 0);
    }
}
