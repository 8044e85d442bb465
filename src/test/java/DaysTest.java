/** Promises 12 to 18 and 33: days to come, nothing being paid, none meeting. */
public final class DaysTest {
    private static final int[] BAD_DAYS = {-1, 61, Integer.MAX_VALUE, Integer.MIN_VALUE};
    /** p SITS on c from day 60 on, q from day 61 on. */
    private static final String FAR = Check.NO_BIRDS
            + ";bird p plain from a to c day 0 wrong 1;bird q plain from a to c day 1 wrong 1";
    /** q SITS where it is let go on the first day. */
    private static final String AT_ONCE = "loft wings 5 hawks 0 storm 0;house a at 4 coins 9;house b at 4 coins 9;"
            + "bird q plain from a to b day 0 wrong 2";

    public static void main(String[] args) {
        whereIn();
        whereInOfOneGone();
        whereInRefused();
        sitIn();
        sitInNothingBeingPaid();
        sitInRefused();
        whiteIn();
        whiteInFromNow();
        whiteInRefused();
        sitsIn();
        sitsInSixty();
        sitsInGone();
        sitsInRefused();
        worstDay();
        worstDayFirstSuch();
        worstDaySixty();
        worstDayRefused();
        whitest();
        whitestFirstSuch();
        whitestRefused();
        allSit();
        allSitSixty();
        allSitOfNone();
        allSitRefused();
        quiet();
        quietSixtyMore();
        quietRefused();
        fullTown();
        Check.end("DaysTest");
    }

    // Promise 12, "Where a bird is n days (0 .. 60) from NOW on, likewise.": each day's edge, the least n, the most
    private static void whereIn() {
        GrudgeLoft x = Check.town(Check.TOWN);
        int[] pat = {0, 1, 1, 1, 2, 2};
        for (int n = 0; n < pat.length; n++) {
            int ahead = n;
            Check.granted(x, "whereIn(1, " + n + ")", () -> x.whereIn(1, ahead), pat[n]);
        }
        Check.granted(x, "whereIn(1, 60)", () -> x.whereIn(1, 60), 2);
        x.day();
        Check.granted(x, "whereIn(1, 2) of the next day", () -> x.whereIn(1, 2), 1);
        Check.granted(x, "whereIn(1, 3) of the next day", () -> x.whereIn(1, 3), 2);
        GrudgeLoft far = Check.town(FAR);
        Check.granted(far, "whereIn(0, 59)", () -> far.whereIn(0, 59), 1);
        Check.granted(far, "whereIn(0, 60)", () -> far.whereIn(0, 60), 2);
        Check.granted(far, "whereIn(1, 60)", () -> far.whereIn(1, 60), 1);
    }

    // Promise 12, "likewise": one that is gone NOW is gone then
    private static void whereInOfOneGone() {
        GrudgeLoft x = Check.town(Check.TOWN);
        x.meet(0, 1);
        Check.granted(x, "whereIn(1, 0), gone", () -> x.whereIn(1, 0), 3);
        Check.granted(x, "whereIn(1, 60), gone", () -> x.whereIn(1, 60), 3);
    }

    // Promise 12, "NONE: 1; 2.": no TOWN, no such bird; n too small, too large; the bird is looked at first
    private static void whereInRefused() {
        GrudgeLoft none = new GrudgeLoft();
        Check.refused(none, "whereIn(0, 61), no town", () -> none.whereIn(0, 61), 1);
        GrudgeLoft x = Check.town(Check.TOWN);
        for (int n : BAD_DAYS) {
            Check.refused(x, "whereIn(2, " + n + ")", () -> x.whereIn(2, n), 2);
        }
        for (int b : new int[] {-1, 4, 7, Integer.MAX_VALUE, Integer.MIN_VALUE}) {
            Check.refused(x, "whereIn(" + b + ", 0)", () -> x.whereIn(b, 0), 1);
        }
        Check.refused(x, "whereIn(4, 61)", () -> x.whereIn(4, 61), 1);
    }

    // Promise 13, "How many SIT on a house then.": none, one, two; by SILLS; 0 days on, 60; not strays
    private static void sitIn() {
        GrudgeLoft x = Check.town(Check.TOWN + ";stray s from bay day 0");
        int[] ash = {0, 0, 0, 1, 2, 2};
        for (int n = 0; n < ash.length; n++) {
            int ahead = n;
            Check.granted(x, "sitIn(0, " + n + ")", () -> x.sitIn(0, ahead), ash[n]);
        }
        Check.granted(x, "sitIn(2, 4)", () -> x.sitIn(2, 4), 0);
        Check.granted(x, "sitIn(2, 5)", () -> x.sitIn(2, 5), 1);
        Check.granted(x, "sitIn(2, 60)", () -> x.sitIn(2, 60), 1);
        GrudgeLoft far = Check.town(FAR);
        Check.granted(far, "sitIn(2, 59)", () -> far.sitIn(2, 59), 0);
        Check.granted(far, "sitIn(2, 60)", () -> far.sitIn(2, 60), 1);
    }

    // Promise 13, "How many SIT on a house then.": from NOW on, and nobody who is gone
    private static void sitInNothingBeingPaid() {
        GrudgeLoft x = Check.town(Check.TOWN);
        Check.days(x, 3);
        Check.granted(x, "sitIn(0, 0) of day 3", () -> x.sitIn(0, 0), 1);
        Check.granted(x, "sitIn(0, 1) of day 3", () -> x.sitIn(0, 1), 2);
        x.pay(2, 8);
        Check.granted(x, "sitIn(0, 0), one paid", () -> x.sitIn(0, 0), 0);
        Check.granted(x, "sitIn(0, 1), one paid", () -> x.sitIn(0, 1), 1);
    }

    // Promise 13, "NONE: 1; 2.": no TOWN, no such house; n too small, too large; the house is looked at first
    private static void sitInRefused() {
        GrudgeLoft none = new GrudgeLoft();
        Check.refused(none, "sitIn(0, 61), no town", () -> none.sitIn(0, 61), 1);
        GrudgeLoft x = Check.town(Check.TOWN);
        for (int n : BAD_DAYS) {
            Check.refused(x, "sitIn(0, " + n + ")", () -> x.sitIn(0, n), 2);
        }
        for (int h : new int[] {-1, 3, 6, Integer.MAX_VALUE, Integer.MIN_VALUE}) {
            Check.refused(x, "sitIn(" + h + ", 0)", () -> x.sitIn(h, 0), 1);
        }
        Check.refused(x, "sitIn(3, 61)", () -> x.sitIn(3, 61), 1);
    }

    // Promise 14, "How WHITE a house is then.": from none on, 60 days on; the first day makes none WHITE
    private static void whiteIn() {
        GrudgeLoft x = Check.town(Check.TOWN);
        int[] ash = {0, 0, 0, 1, 3, 5, 7};
        for (int n = 0; n < ash.length; n++) {
            int ahead = n;
            Check.granted(x, "whiteIn(0, " + n + ")", () -> x.whiteIn(0, ahead), ash[n]);
        }
        Check.granted(x, "whiteIn(0, 60)", () -> x.whiteIn(0, 60), 58 + 57);
        Check.granted(x, "whiteIn(2, 60)", () -> x.whiteIn(2, 60), 56);
        GrudgeLoft once = Check.town(AT_ONCE);
        Check.granted(once, "whiteIn(1, 0)", () -> once.whiteIn(1, 0), 0);
        Check.granted(once, "whiteIn(1, 1)", () -> once.whiteIn(1, 1), 1);
        Check.granted(once, "whiteIn(1, 60)", () -> once.whiteIn(1, 60), 60);
        GrudgeLoft far = Check.town(FAR);
        Check.granted(far, "whiteIn(2, 59)", () -> far.whiteIn(2, 59), 0);
        Check.granted(far, "whiteIn(2, 60)", () -> far.whiteIn(2, 60), 1);
    }

    // Promise 14, "How WHITE a house is then.": WHITE so far, and by those not gone from NOW on
    private static void whiteInFromNow() {
        GrudgeLoft x = Check.town(Check.TOWN);
        Check.days(x, 4);
        Check.granted(x, "whiteIn(0, 0) of day 4", () -> x.whiteIn(0, 0), 3);
        Check.granted(x, "whiteIn(0, 2) of day 4", () -> x.whiteIn(0, 2), 7);
        x.pay(2, 8);
        Check.granted(x, "whiteIn(0, 0), one paid", () -> x.whiteIn(0, 0), 3);
        Check.granted(x, "whiteIn(0, 2), one paid", () -> x.whiteIn(0, 2), 5);
        x.pay(1, 5);
        Check.granted(x, "whiteIn(0, 60), all gone", () -> x.whiteIn(0, 60), 3);
        Check.granted(x, "whiteIn(2, 60)", () -> x.whiteIn(2, 60), 60);
    }

    // Promise 14, "NONE: 1; 2.": no TOWN, no such house; n too small, too large; the house is looked at first
    private static void whiteInRefused() {
        GrudgeLoft none = new GrudgeLoft();
        Check.refused(none, "whiteIn(0, 61), no town", () -> none.whiteIn(0, 61), 1);
        GrudgeLoft x = Check.town(Check.TOWN);
        for (int n : BAD_DAYS) {
            Check.refused(x, "whiteIn(0, " + n + ")", () -> x.whiteIn(0, n), 2);
        }
        for (int h : new int[] {-1, 3, 6, Integer.MAX_VALUE, Integer.MIN_VALUE}) {
            Check.refused(x, "whiteIn(" + h + ", 0)", () -> x.whiteIn(h, 0), 1);
        }
        Check.refused(x, "whiteIn(3, 61)", () -> x.whiteIn(3, 61), 1);
    }

    // Promise 15, "In how many days (0 .. 60) a bird SITS first;": 0 if it does NOW, however long
    private static void sitsIn() {
        GrudgeLoft x = Check.town(Check.TOWN);
        int[] due = {3, 4, 3, 5};
        for (int b = 0; b < due.length; b++) {
            int bird = b;
            Check.granted(x, "sitsIn(" + b + ")", () -> x.sitsIn(bird), due[b]);
        }
        Check.days(x, 3);
        Check.granted(x, "sitsIn(0) of day 3", () -> x.sitsIn(0), 0);
        Check.granted(x, "sitsIn(3) of day 3", () -> x.sitsIn(3), 2);
        Check.days(x, 70);
        Check.granted(x, "sitsIn(0) of day 73", () -> x.sitsIn(0), 0);
    }

    // Promise 15, "-2 not in these": in 60 it is, in 61 it isn't
    private static void sitsInSixty() {
        GrudgeLoft x = Check.town(FAR);
        Check.granted(x, "sitsIn of 60", () -> x.sitsIn(0), 60);
        Check.granted(x, "sitsIn of 61", () -> x.sitsIn(1), -2);
        x.day();
        Check.granted(x, "sitsIn of 61, a day on", () -> x.sitsIn(1), 60);
        GrudgeLoft most = Check.town(Check.NO_BIRDS + ";bird p plain from a to b day 30 wrong 1");
        Check.granted(most, "sitsIn of 129", () -> most.sitsIn(0), -2);
    }

    // Promise 15, "or it is gone.": be it that it sat, or would
    private static void sitsInGone() {
        GrudgeLoft x = Check.town(Check.TOWN);
        Check.days(x, 4);
        x.meet(1, 3);
        Check.granted(x, "sitsIn(1), it sat", () -> x.sitsIn(1), -2);
        Check.granted(x, "sitsIn(3), it would", () -> x.sitsIn(3), -2);
        x.pay(0, 12);
        Check.granted(x, "sitsIn(0), paid", () -> x.sitsIn(0), -2);
    }

    // Promise 15, "NONE: 1.": no TOWN, no such bird
    private static void sitsInRefused() {
        GrudgeLoft none = new GrudgeLoft();
        Check.refused(none, "sitsIn(0), no town", () -> none.sitsIn(0), 1);
        GrudgeLoft x = Check.town(Check.TOWN);
        for (int b : new int[] {-1, 4, 7, Integer.MAX_VALUE, Integer.MIN_VALUE}) {
            Check.refused(x, "sitsIn(" + b + ")", () -> x.sitsIn(b), 1);
        }
    }

    // Promise 16, "In how many days (0 .. 60) most SIT on one house": not on all of them together
    private static void worstDay() {
        GrudgeLoft x = Check.town(Check.TOWN);
        Check.granted(x, "worstDay()", x::worstDay, 4);
        Check.days(x, 3);
        Check.granted(x, "worstDay() of day 3", x::worstDay, 1);
        x.day();
        Check.granted(x, "worstDay() of day 4", x::worstDay, 0);
    }

    // Promise 16, "the first such.": of like days; of days by which nobody SITS
    private static void worstDayFirstSuch() {
        GrudgeLoft x = Check.town(Check.TOWN);
        Check.days(x, 3);
        x.pay(2, 8);
        Check.granted(x, "worstDay(), one on each", x::worstDay, 0);
        GrudgeLoft y = Check.town(Check.NO_BIRDS);
        Check.granted(y, "worstDay(), no birds", y::worstDay, 0);
        GrudgeLoft z = Check.town(Check.NO_BIRDS + ";bird p plain from a to b day 0 wrong 1");
        Check.granted(z, "worstDay(), nobody in 60 days", z::worstDay, 0);
        GrudgeLoft once = Check.town(AT_ONCE);
        Check.granted(once, "worstDay() at once", once::worstDay, 0);
    }

    // Promise 16, "In how many days (0 .. 60)": by the 60th it may be, by the 61st not
    private static void worstDaySixty() {
        GrudgeLoft x = Check.town(FAR);
        Check.granted(x, "worstDay() on day 60", x::worstDay, 60);
        x.day();
        Check.granted(x, "worstDay(), two in 60 days", x::worstDay, 60);
        GrudgeLoft y = Check.town(FAR + ";bird r plain from b to c day 0 wrong 1;"
                + "bird s plain from b to c day 30 wrong 1");
        Check.granted(y, "worstDay(), two in 60 days, one in 69", y::worstDay, 60);
    }

    // Promise 16, "NONE: 1 (no TOWN).": ahead of the first loft
    private static void worstDayRefused() {
        GrudgeLoft x = new GrudgeLoft();
        Check.refused(x, "worstDay()", x::worstDay, 1);
    }

    // Promise 17, "The house that is WHITE most then, n days (0 .. 60) on": NOW, then, 60 days on
    private static void whitest() {
        GrudgeLoft x = Check.town(Check.TOWN);
        Check.granted(x, "whitest(60)", () -> x.whitest(60), 0);
        Check.days(x, 4);
        x.meet(1, 0);
        x.pay(2, 8);
        Check.granted(x, "whitest(0), ash 3, bay 2", () -> x.whitest(0), 0);
        Check.granted(x, "whitest(3), cot 3", () -> x.whitest(3), 0);
        Check.granted(x, "whitest(4), cot 4", () -> x.whitest(4), 2);
        GrudgeLoft far = Check.town(FAR);
        Check.granted(far, "whitest(59)", () -> far.whitest(59), 0);
        Check.granted(far, "whitest(60)", () -> far.whitest(60), 2);
    }

    // Promise 17, "the first such.": of none that is WHITE, of as WHITE ones
    private static void whitestFirstSuch() {
        GrudgeLoft x = Check.town(Check.TOWN);
        Check.granted(x, "whitest(0), none is", () -> x.whitest(0), 0);
        Check.granted(x, "whitest(3), ash 1, bay 1", () -> x.whitest(3), 0);
        GrudgeLoft y = Check.town(Check.HOUSES + "bird p plain from ash to cot day 0 wrong 1;"
                + "bird q plain from ash to bay day 0 wrong 1");
        Check.granted(y, "whitest(9), bay 7, cot 7", () -> y.whitest(9), 1);
    }

    // Promise 17, "NONE: 1 (no TOWN); 2.": the TOWN first; n too small, too large
    private static void whitestRefused() {
        GrudgeLoft none = new GrudgeLoft();
        Check.refused(none, "whitest(0), no town", () -> none.whitest(0), 1);
        Check.refused(none, "whitest(61), no town", () -> none.whitest(61), 1);
        GrudgeLoft x = Check.town(Check.TOWN);
        for (int n : BAD_DAYS) {
            Check.refused(x, "whitest(" + n + ")", () -> x.whitest(n), 2);
        }
    }

    // Promise 18, "In how many days (0 .. 60) all birds not gone SIT, the first such;": the last one's, 0 if they do
    // NOW
    private static void allSit() {
        GrudgeLoft x = Check.town(Check.TOWN);
        Check.granted(x, "allSit()", x::allSit, 5);
        Check.days(x, 3);
        Check.granted(x, "allSit() of day 3", x::allSit, 2);
        x.meet(1, 3);
        Check.granted(x, "allSit(), the late ones gone", x::allSit, 0);
        GrudgeLoft y = Check.town(Check.TOWN);
        Check.days(y, 5);
        Check.granted(y, "allSit() of day 5", y::allSit, 0);
        Check.days(y, 70);
        Check.granted(y, "allSit() of day 75", y::allSit, 0);
        GrudgeLoft late = Check.town(Check.HOUSES + "bird p plain from ash to bay day 9 wrong 1;"
                + "bird q plain from ash to bay day 0 wrong 1");
        Check.granted(late, "allSit(), the first is the last", late::allSit, 12);
    }

    // Promise 18, "-2 not in these.": in 60 they do, in 61 not
    private static void allSitSixty() {
        GrudgeLoft x = Check.town(FAR);
        Check.granted(x, "allSit() in 61", x::allSit, -2);
        x.day();
        Check.granted(x, "allSit() in 60", x::allSit, 60);
        GrudgeLoft slow = Check.town(Check.TOWN.replace("wings 10", "wings 1"));
        Check.granted(slow, "allSit() in 2 and 30", slow::allSit, 32);
    }

    // Promise 18, "all birds not gone": there being none of these, NOW
    private static void allSitOfNone() {
        GrudgeLoft x = Check.town(Check.NO_BIRDS);
        Check.granted(x, "allSit() of none", x::allSit, 0);
        GrudgeLoft y = Check.town(Check.NO_BIRDS + ";bird p plain from a to b day 9 wrong 5;"
                + "bird q plain from b to a day 9 wrong 5");
        Check.granted(y, "allSit() in 108", y::allSit, -2);
        y.meet(0, 1);
        Check.granted(y, "allSit(), all gone", y::allSit, 0);
    }

    // Promise 18, "NONE: 1 (no TOWN).": ahead of the first loft
    private static void allSitRefused() {
        GrudgeLoft x = new GrudgeLoft();
        Check.refused(x, "allSit()", x::allSit, 1);
    }

    // Promise 33, "On how many of the days NOW and 60 more nobody SITS on a house.": all 61, some, none
    private static void quiet() {
        GrudgeLoft x = Check.town(Check.TOWN);
        Check.granted(x, "quiet(0)", () -> x.quiet(0), 3);
        Check.granted(x, "quiet(2)", () -> x.quiet(2), 5);
        Check.days(x, 3);
        Check.granted(x, "quiet(0) of day 3", () -> x.quiet(0), 0);
        Check.granted(x, "quiet(2) of day 3", () -> x.quiet(2), 2);
        x.meet(1, 3);
        Check.granted(x, "quiet(2), its bird gone", () -> x.quiet(2), 61);
        GrudgeLoft y = Check.town(Check.NO_BIRDS);
        Check.granted(y, "quiet(1) without birds", () -> y.quiet(1), 61);
    }

    // Promise 33, "NOW and 60 more": the 60th counts, the 61st doesn't
    private static void quietSixtyMore() {
        GrudgeLoft x = Check.town(FAR);
        Check.granted(x, "quiet but on day 60", () -> x.quiet(2), 60);
        x.day();
        Check.granted(x, "quiet but on two days", () -> x.quiet(2), 59);
        GrudgeLoft y = Check.town(Check.NO_BIRDS + ";bird q plain from a to c day 1 wrong 1");
        Check.granted(y, "quiet up to day 61", () -> y.quiet(2), 61);
    }

    // Promise 33, "NONE: 1.": no TOWN, no such house
    private static void quietRefused() {
        GrudgeLoft none = new GrudgeLoft();
        Check.refused(none, "quiet(0), no town", () -> none.quiet(0), 1);
        GrudgeLoft x = Check.town(Check.TOWN);
        for (int h : new int[] {-1, 3, 6, Integer.MAX_VALUE, Integer.MIN_VALUE}) {
            Check.refused(x, "quiet(" + h + ")", () -> x.quiet(h), 1);
        }
    }

    // Terms I, "up to 7)": of six houses and seven birds, and of two and one behind them, all is told as of others
    private static void fullTown() {
        GrudgeLoft x = Check.town(Check.FULL);
        int[] sits = {1, 2, 3, 4, 5, 6, 7};
        for (int b = 0; b < 7; b++) {
            Check.due("sitsIn(" + b + ")", x.sitsIn(b), sits[b]);
            Check.due("whereIn(" + b + ") ahead", x.whereIn(b, sits[b] - 1), 1);
            Check.due("whereIn(" + b + ")", x.whereIn(b, sits[b]), 2);
        }
        int[] sitting = {1, 4, 1, 0, 0, 1};
        int[] white = {57, 60 + 59 + 58 + 54, 55, 0, 0, 56};
        int[] quiet = {4, 1, 6, 61, 61, 5};
        for (int h = 0; h < 6; h++) {
            Check.due("sitIn(" + h + ", 7)", x.sitIn(h, 7), sitting[h]);
            Check.due("whiteIn(" + h + ", 60)", x.whiteIn(h, 60), white[h]);
            Check.due("quiet(" + h + ")", x.quiet(h), quiet[h]);
        }
        Check.due("worstDay()", x.worstDay(), 7);
        Check.due("whitest(60)", x.whitest(60), 1);
        Check.due("allSit()", x.allSit(), 7);
        Check.loft(x, AT_ONCE);
        Check.due("whiteIn(0, 60) of two houses", x.whiteIn(0, 60), 0);
        Check.due("quiet(0) of two houses", x.quiet(0), 61);
        Check.due("worstDay() of two houses", x.worstDay(), 0);
        Check.due("allSit() of two houses", x.allSit(), 0);
        Check.due("whitest(60) of two houses", x.whitest(60), 1);
    }
}
