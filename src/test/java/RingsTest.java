/** Promises 28 to 32: rings, what can be paid, what a MEETING spares, feuds. */
public final class RingsTest {
    private static final int[] NO_HOUSES = {-1, 3, 6, Integer.MAX_VALUE, Integer.MIN_VALUE};
    /** bay wronged ash, cot wronged bay, ash wronged cot: the ring goes ash, cot, bay. */
    private static final String RING = Check.HOUSES + "bird p plain from ash to bay day 0 wrong 1;"
            + "bird q plain from bay to cot day 0 wrong 1;bird r plain from cot to ash day 0 wrong 1";
    private static final String SIX = Check.LOFT + "house a at 0 coins 1;house b at 1 coins 1;house c at 2 coins 1;"
            + "house d at 3 coins 1;house e at 4 coins 1;house f at 5 coins 1;";

    public static void main(String[] args) {
        ringOfTwo();
        ringOfThree();
        ringOfSix();
        ringTheFewest();
        ringOfNone();
        ringByBirdsNotGone();
        ringRefused();
        ringAt();
        ringAtTheHouseItself();
        ringAtFirstByHouses();
        ringAtRefused();
        payable();
        payableOfLikeOnes();
        payableCoinsNow();
        payableRefused();
        bestMeeting();
        bestMeetingOfLikeOnes();
        bestMeetingOfNone();
        bestMeetingRefused();
        feud();
        feudRefused();
        fullTown();
        Check.end("RingsTest");
    }

    // Promise 28, "Rings: the fewest houses (2 or more)": two that wronged each other
    private static void ringOfTwo() {
        GrudgeLoft x = Check.town(Check.TOWN);
        Check.granted(x, "ring(0)", () -> x.ring(0), 2);
        Check.granted(x, "ring(1)", () -> x.ring(1), 2);
    }

    // Promise 28, "of which each one wronged the next one, the last one the first": three, through each of them
    private static void ringOfThree() {
        GrudgeLoft x = Check.town(RING);
        for (int h = 0; h < 3; h++) {
            int house = h;
            Check.granted(x, "ring(" + h + ")", () -> x.ring(house), 3);
        }
    }

    // Promise 28, "the fewest houses (2 or more)": as many as there may be
    private static void ringOfSix() {
        GrudgeLoft x = Check.town(SIX + "bird p plain from a to b day 0 wrong 1;bird q plain from b to c day 0 wrong 1;"
                + "bird r plain from c to d day 0 wrong 1;bird s plain from d to e day 0 wrong 1;"
                + "bird t plain from e to f day 0 wrong 1;bird u plain from f to a day 0 wrong 1");
        for (int h = 0; h < 6; h++) {
            int house = h;
            Check.granted(x, "ring(" + h + ")", () -> x.ring(house), 6);
            for (int i = 0; i < 6; i++) {
                int at = i;
                Check.granted(x, "ringAt(" + h + ", " + i + ")", () -> x.ringAt(house, at), (h + 6 - i) % 6);
            }
        }
        GrudgeLoft y = Check.town(SIX + "bird p plain from b to a day 0 wrong 1;bird q plain from c to b day 0 wrong 1;"
                + "bird r plain from d to c day 0 wrong 1;bird s plain from e to d day 0 wrong 1;"
                + "bird t plain from f to e day 0 wrong 1;bird u plain from a to f day 0 wrong 1");
        for (int h = 0; h < 6; h++) {
            int house = h;
            Check.granted(y, "ring(" + h + "), the other way", () -> y.ring(house), 6);
            Check.granted(y, "ringAt(" + h + ", 5), the other way", () -> y.ringAt(house, 5), (house + 5) % 6);
        }
    }

    // Promise 28, "the fewest houses (2 or more)": two, though there's a ring of three through the house
    private static void ringTheFewest() {
        GrudgeLoft x = Check.town(RING + ";bird s plain from bay to ash day 0 wrong 1");
        int[] due = {2, 2, 3};
        for (int h = 0; h < 3; h++) {
            int house = h;
            Check.granted(x, "ring(" + h + ")", () -> x.ring(house), due[h]);
        }
        Check.granted(x, "ringAt(0, 1)", () -> x.ringAt(0, 1), 1);
        Check.refused(x, "ringAt(0, 2)", () -> x.ringAt(0, 2), 1);
    }

    // Promise 28, "through a house; -2 there is none.": nobody wronged; a way to a ring it isn't in; a way from one
    private static void ringOfNone() {
        GrudgeLoft x = Check.town(Check.TOWN);
        Check.granted(x, "ring(2), ash wronged it", () -> x.ring(2), -2);
        GrudgeLoft y = Check.town(SIX + "bird p plain from a to b day 0 wrong 1;bird q plain from b to a day 0 wrong 1;"
                + "bird r plain from a to c day 0 wrong 1;bird s plain from d to b day 0 wrong 1");
        int[] due = {2, 2, -2, -2, -2, -2};
        for (int h = 0; h < 6; h++) {
            int house = h;
            Check.granted(y, "ring(" + h + ")", () -> y.ring(house), due[h]);
        }
        GrudgeLoft none = Check.town(Check.NO_BIRDS);
        Check.granted(none, "ring(0) without birds", () -> none.ring(0), -2);
    }

    // Promise 28, "(birds not gone: FOR the one who wronged)": those gone make none
    private static void ringByBirdsNotGone() {
        GrudgeLoft x = Check.town(RING);
        Check.days(x, 3);
        for (int b = 0; b < 3; b++) {
            x.pay(b, 1);
            for (int h = 0; h < 3; h++) {
                int house = h;
                Check.granted(x, "ring(" + h + "), " + b + " gone", () -> x.ring(house), -2);
            }
            x.undo();
            Check.granted(x, "ring(0), undone", () -> x.ring(0), 3);
        }
        GrudgeLoft y = Check.town(Check.TOWN);
        y.meet(0, 1);
        Check.granted(y, "ring(0), two gone, poe FOR bay", () -> y.ring(0), -2);
    }

    // Promise 28, "NONE: 1.": no TOWN, no such house
    private static void ringRefused() {
        GrudgeLoft none = new GrudgeLoft();
        Check.refused(none, "ring(0), no town", () -> none.ring(0), 1);
        GrudgeLoft x = Check.town(RING);
        for (int h : NO_HOUSES) {
            Check.refused(x, "ring(" + h + ")", () -> x.ring(h), 1);
        }
    }

    // Promise 29, "The i-th house": as each wronged the next one, not the other way round
    private static void ringAt() {
        GrudgeLoft x = Check.town(RING);
        int[][] due = {{0, 2, 1}, {1, 0, 2}, {2, 1, 0}};
        for (int h = 0; h < 3; h++) {
            for (int i = 0; i < 3; i++) {
                int house = h;
                int at = i;
                Check.granted(x, "ringAt(" + h + ", " + i + ")", () -> x.ringAt(house, at), due[h][i]);
            }
        }
    }

    // Promise 29, "(0: the house itself)": of each that has a ring
    private static void ringAtTheHouseItself() {
        GrudgeLoft x = Check.town(Check.TOWN);
        Check.granted(x, "ringAt(0, 0)", () -> x.ringAt(0, 0), 0);
        Check.granted(x, "ringAt(1, 0)", () -> x.ringAt(1, 0), 1);
        Check.granted(x, "ringAt(1, 1)", () -> x.ringAt(1, 1), 0);
    }

    // Promise 29, "the fewest such, of like ones the first by houses, one by one.": of two rings, and a longer one
    private static void ringAtFirstByHouses() {
        // from a: by b and d, by c and d; and a longer one by b, c and d
        GrudgeLoft x = Check.town(SIX + "bird p plain from c to a day 0 wrong 1;bird q plain from d to c day 0 wrong 1;"
                + "bird r plain from b to a day 0 wrong 1;bird s plain from d to b day 0 wrong 1;"
                + "bird t plain from a to d day 0 wrong 1;bird u plain from c to b day 0 wrong 1");
        int[][] due = {{0, 1, 3}, {1, 3, 0}, {2, 3, 0}, {3, 0, 1}};
        for (int h = 0; h < 4; h++) {
            int house = h;
            Check.granted(x, "ring(" + h + ")", () -> x.ring(house), 3);
            for (int i = 0; i < 3; i++) {
                int at = i;
                Check.granted(x, "ringAt(" + h + ", " + i + ")", () -> x.ringAt(house, at), due[h][i]);
            }
        }
        // a with b, with c: two rings of two
        GrudgeLoft y = Check.town(SIX + "bird p plain from a to c day 0 wrong 1;bird q plain from c to a day 0 wrong 1;"
                + "bird r plain from b to a day 0 wrong 1;bird s plain from a to b day 0 wrong 1");
        Check.granted(y, "ringAt(0, 1) of two by two", () -> y.ringAt(0, 1), 1);
        Check.granted(y, "ringAt(2, 1) of two by two", () -> y.ringAt(2, 1), 0);
    }

    // Promise 29, "NONE: 1 (i, too; there is none).": no TOWN, no such house; i too small, too large; no ring
    private static void ringAtRefused() {
        GrudgeLoft none = new GrudgeLoft();
        Check.refused(none, "ringAt(0, 0), no town", () -> none.ringAt(0, 0), 1);
        GrudgeLoft x = Check.town(RING);
        for (int h : NO_HOUSES) {
            Check.refused(x, "ringAt(" + h + ", 0)", () -> x.ringAt(h, 0), 1);
        }
        for (int i : new int[] {-1, 3, 4, 6, Integer.MAX_VALUE, Integer.MIN_VALUE}) {
            Check.refused(x, "ringAt(0, " + i + ")", () -> x.ringAt(0, i), 1);
        }
        Check.days(x, 3);
        x.pay(0, 1);
        Check.refused(x, "ringAt(0, 0), one gone", () -> x.ringAt(0, 0), 1);
        GrudgeLoft y = Check.town(Check.TOWN);
        Check.refused(y, "ringAt(2, 0), there is none", () -> y.ringAt(2, 0), 1);
        Check.refused(y, "ringAt(0, 2) of two", () -> y.ringAt(0, 2), 1);
    }

    // Promise 30, "Most birds not gone FOR a house whose LEFTS together are no more than its coins NOW": all, some,
    // none
    private static void payable() {
        GrudgeLoft x = Check.town(Check.TOWN);
        Check.granted(x, "payable(0)", () -> x.payable(0), 0b0110);
        Check.granted(x, "payable(1)", () -> x.payable(1), 0b1001);
        Check.granted(x, "payable(2), none is FOR it", () -> x.payable(2), 0);
        x.meet(0, 1);
        Check.granted(x, "payable(0), one gone", () -> x.payable(0), 0b0100);
        Check.granted(x, "payable(1), one gone", () -> x.payable(1), 0b1000);
        GrudgeLoft y = Check.town(Check.LOFT + "house a at 0 coins 4;house b at 0 coins 5;house c at 0 coins 0;"
                + "bird p plain from a to b day 0 wrong 5;bird q plain from b to a day 0 wrong 5;"
                + "bird r plain from a to c day 0 wrong 1");
        Check.granted(y, "payable of 5 by 4", () -> y.payable(0), 0);
        Check.granted(y, "payable of 5 by 5", () -> y.payable(1), 0b001);
        Check.granted(y, "payable of 1 by 0", () -> y.payable(2), 0);
    }

    // Promise 30, "(of like ones the fewest coins, of these the least bits)": one by one
    private static void payableOfLikeOnes() {
        GrudgeLoft x = Check.town(Check.LOFT + "house a at 0 coins 9;house b at 0 coins 13;"
                + "bird p plain from a to b day 0 wrong 7;bird q plain from a to b day 0 wrong 6;"
                + "bird r plain from a to b day 0 wrong 6;bird s plain from b to a day 0 wrong 1");
        Check.granted(x, "payable of 13: two for 12", () -> x.payable(1), 0b0110);
        GrudgeLoft y = Check.town(Check.LOFT + "house a at 0 coins 9;house b at 0 coins 11;"
                + "bird p plain from a to b day 0 wrong 7;bird q plain from a to b day 0 wrong 6;"
                + "bird r plain from a to b day 0 wrong 6;bird s plain from b to a day 0 wrong 1");
        Check.granted(y, "payable of 11: one for 6, of the least bits", () -> y.payable(1), 0b0010);
    }

    // Promise 30, "its coins NOW": as many as it still has, by LEFTS NOW
    private static void payableCoinsNow() {
        GrudgeLoft x = Check.town(Check.LOFT + "house a at 0 coins 9;house b at 0 coins 12;"
                + "bird p plain from a to b day 0 wrong 7;bird q plain from a to b day 0 wrong 6;"
                + "bird r plain from a to b day 0 wrong 6");
        Check.granted(x, "payable of 12", () -> x.payable(1), 0b110);
        x.pay(0, 1);
        Check.granted(x, "payable of 11", () -> x.payable(1), 0b001);
        x.pay(0, 6);
        Check.granted(x, "payable of 5", () -> x.payable(1), 0);
    }

    // Promise 30, "NONE: 1.": no TOWN, no such house
    private static void payableRefused() {
        GrudgeLoft none = new GrudgeLoft();
        Check.refused(none, "payable(0), no town", () -> none.payable(0), 1);
        GrudgeLoft x = Check.town(Check.TOWN);
        for (int h : NO_HOUSES) {
            Check.refused(x, "payable(" + h + ")", () -> x.payable(h), 1);
        }
    }

    // Promise 31, "by which most coins are spared (both LEFTS less what the MEETING costs)": 10 times the lesser, the
    // other
    private static void bestMeeting() {
        GrudgeLoft x = Check.town(Check.TOWN);
        Check.days(x, 5);
        x.pay(0, 8);
        Check.granted(x, "bestMeeting(), 8 paid for pip", x::bestMeeting, 13);
        // costs: p with r 1, spares 2; q with r 20, spares 4
        GrudgeLoft y = Check.town(Check.HOUSES + "bird p plain from ash to bay day 0 wrong 1;"
                + "bird q plain from ash to bay day 0 wrong 22;bird r plain from bay to ash day 0 wrong 2");
        Check.granted(y, "bestMeeting(), spared is not what it costs", y::bestMeeting, 12);
        // two apart: the first would spare 2 of 51, the others 6 of 6
        GrudgeLoft apart = Check.town(Check.HOUSES + "bird p plain from ash to bay day 0 wrong 1;"
                + "bird q plain from bay to ash day 0 wrong 50;bird r plain from ash to cot day 0 wrong 3;"
                + "bird s plain from cot to ash day 0 wrong 3");
        Check.granted(apart, "bestMeeting(), spared is not all that is LEFT", apart::bestMeeting, 23);
        GrudgeLoft back = Check.town(Check.HOUSES + "bird p plain from ash to bay day 0 wrong 50;"
                + "bird q plain from bay to ash day 0 wrong 1;bird r plain from ash to cot day 0 wrong 3;"
                + "bird s plain from cot to ash day 0 wrong 3");
        Check.granted(back, "bestMeeting(), nor twice the first's", back::bestMeeting, 23);
        GrudgeLoft z = Check.town(Check.HOUSES + "bird o plain from ash to cot day 0 wrong 9;"
                + "bird p plain from ash to cot day 0 wrong 9;bird q plain from ash to cot day 0 wrong 9;"
                + "bird r plain from ash to cot day 0 wrong 9;bird s plain from ash to cot day 0 wrong 9;"
                + "bird t plain from ash to bay day 0 wrong 1;bird u plain from bay to ash day 0 wrong 2");
        Check.granted(z, "bestMeeting() of the last two", z::bestMeeting, 56);
    }

    // Promise 31, "the first two:": of like ones by the lesser, then by the other one
    private static void bestMeetingOfLikeOnes() {
        GrudgeLoft x = Check.town(Check.TOWN);
        Check.granted(x, "bestMeeting(), pip or poe with pat", x::bestMeeting, 1);
        GrudgeLoft y = Check.town(Check.HOUSES + "bird p plain from ash to bay day 0 wrong 5;"
                + "bird q plain from ash to bay day 0 wrong 5;bird r plain from bay to ash day 0 wrong 5;"
                + "bird s plain from bay to ash day 0 wrong 5");
        Check.granted(y, "bestMeeting() of four ways", y::bestMeeting, 2);
    }

    // Promise 31, "-2 no two can.": no birds, of one side, gone
    private static void bestMeetingOfNone() {
        GrudgeLoft none = Check.town(Check.NO_BIRDS);
        Check.granted(none, "bestMeeting() without birds", none::bestMeeting, -2);
        GrudgeLoft x = Check.town(Check.TOWN);
        x.meet(1, 3);
        Check.granted(x, "bestMeeting(), two gone", x::bestMeeting, -2);
        GrudgeLoft y = Check.town(RING);
        Check.granted(y, "bestMeeting() of a ring", y::bestMeeting, -2);
    }

    // Promise 31, "NONE: 1 (no TOWN).": ahead of the first loft
    private static void bestMeetingRefused() {
        GrudgeLoft x = new GrudgeLoft();
        Check.refused(x, "bestMeeting()", x::bestMeeting, 1);
    }

    // Promise 32, "LEFTS of birds not gone from one house FOR another one.": one way alone; 0 of none; by LEFTS NOW
    private static void feud() {
        GrudgeLoft x = Check.town(Check.TOWN);
        Check.granted(x, "feud(0, 1)", () -> x.feud(0, 1), 18);
        Check.granted(x, "feud(1, 0)", () -> x.feud(1, 0), 5);
        Check.granted(x, "feud(2, 0)", () -> x.feud(2, 0), 8);
        Check.granted(x, "feud(0, 2), the SILL of poe", () -> x.feud(0, 2), 0);
        Check.days(x, 3);
        x.pay(0, 2);
        Check.granted(x, "feud(0, 1), 2 paid", () -> x.feud(0, 1), 16);
        x.meet(1, 0);
        Check.granted(x, "feud(0, 1), pip gone", () -> x.feud(0, 1), 6);
        Check.granted(x, "feud(1, 0), pat gone", () -> x.feud(1, 0), 0);
    }

    // Promise 32, "NONE: 1 (unlike).": no TOWN, no such house on either side, the same one
    private static void feudRefused() {
        GrudgeLoft none = new GrudgeLoft();
        Check.refused(none, "feud(0, 1), no town", () -> none.feud(0, 1), 1);
        GrudgeLoft x = Check.town(Check.TOWN);
        Check.refused(x, "feud(0, 0)", () -> x.feud(0, 0), 1);
        Check.refused(x, "feud(2, 2)", () -> x.feud(2, 2), 1);
        for (int h : NO_HOUSES) {
            Check.refused(x, "feud(1, " + h + ")", () -> x.feud(1, h), 1);
            Check.refused(x, "feud(" + h + ", 1)", () -> x.feud(h, 1), 1);
        }
    }

    // Terms I, "up to 7)": of six houses and seven birds, and of two and one behind them, all is told as of others
    private static void fullTown() {
        GrudgeLoft x = Check.town(Check.FULL);
        int[] rings = {2, 2, -2, -2, -2, -2};
        int[] payable = {0b0001000, 0b1000111, 0b0100000, 0, 0, 0b0010000};
        int[] feudsWithTheFirst = {-1, 4, 0, 0, 0, 0};
        int[] feudsWithTheLast = {0, 0, 0, 0, 3, -1};
        for (int h = 0; h < 6; h++) {
            Check.due("ring(" + h + ")", x.ring(h), rings[h]);
            Check.due("payable(" + h + ")", x.payable(h), payable[h]);
            Check.due("feud(" + h + ", 0)", x.feud(h, 0), feudsWithTheFirst[h]);
            Check.due("feud(" + h + ", 5)", x.feud(h, 5), feudsWithTheLast[h]);
        }
        Check.due("bestMeeting()", x.bestMeeting(), 3);
        Check.loft(x, Check.LOFT + "house a at 0 coins 9;house b at 9 coins 9;bird p plain from a to b day 0 wrong 4");
        Check.due("ring(0) of two houses", x.ring(0), -2);
        Check.due("payable(1) of two houses", x.payable(1), 1);
        Check.due("feud(0, 1) of two houses", x.feud(0, 1), 4);
        Check.due("bestMeeting() of two houses", x.bestMeeting(), -2);
    }
}
