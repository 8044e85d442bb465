/** Promises 12 to 18 and 33: days to come. */
public final class DaysTest {
    private static final int[] BAD_DAYS = {-1, 61, Integer.MAX_VALUE, Integer.MIN_VALUE};
    /** 99 days apart: a bird of day 0 SITS on day 99. */
    private static final String FAR = "loft wings 1 hawks 0 storm 0;house a at 0 coins 9;house b at 99 coins 9;"
            + "house c at 60 coins 9;";

    public static void main(String[] args) {
        withoutTown();
        whereIn();
        sitIn();
        whiteIn();
        sitsIn();
        worstDay();
        whitest();
        allSit();
        quiet();
        Check.end("DaysTest");
    }

    private static void withoutTown() {
        GrudgeLoft x = new GrudgeLoft();
        Check.refused(x, "whereIn(0, 99)", x.whereIn(0, 99), 1);
        Check.refused(x, "sitIn(0, 99)", x.sitIn(0, 99), 1);
        Check.refused(x, "whiteIn(0, 99)", x.whiteIn(0, 99), 1);
        Check.refused(x, "sitsIn(0)", x.sitsIn(0), 1);
        Check.refused(x, "worstDay()", x.worstDay(), 1);
        Check.refused(x, "whitest(99)", x.whitest(99), 1);
        Check.refused(x, "allSit()", x.allSit(), 1);
        Check.refused(x, "quiet(0)", x.quiet(0), 1);
    }

    // Promise 12
    private static void whereIn() {
        GrudgeLoft x = Check.town(Check.TOWN);
        int[] pat = {0, 1, 1, 1, 2, 2};
        for (int n = 0; n < pat.length; n++) {
            Check.granted(x, "whereIn(1, " + n + ")", x.whereIn(1, n), pat[n]);
        }
        Check.granted(x, "whereIn(1, 60)", x.whereIn(1, 60), 2);
        x.day();
        Check.due("whereIn(1, 3) of the next day", x.whereIn(1, 3), 2);
        x.meet(0, 1);
        Check.granted(x, "whereIn(1, 0), gone", x.whereIn(1, 0), 3);
        Check.granted(x, "whereIn(1, 60), gone", x.whereIn(1, 60), 3);
        for (int n : BAD_DAYS) {
            Check.refused(x, "whereIn(2, " + n + ")", x.whereIn(2, n), 2);
        }
        Check.refused(x, "whereIn(4, 61)", x.whereIn(4, 61), 1);
        Check.refused(x, "whereIn(-1, 0)", x.whereIn(-1, 0), 1);
    }

    // Promise 13
    private static void sitIn() {
        GrudgeLoft x = Check.town(Check.TOWN + ";stray s from bay day 0");
        int[] ash = {0, 0, 0, 1, 2, 2};
        for (int n = 0; n < ash.length; n++) {
            Check.granted(x, "sitIn(0, " + n + ")", x.sitIn(0, n), ash[n]);
        }
        Check.due("sitIn(2, 60)", x.sitIn(2, 60), 1);
        Check.days(x, 3);
        Check.due("sitIn(0, 1) of day 3", x.sitIn(0, 1), 2);
        x.pay(2, 8);
        Check.due("sitIn(0, 1), one paid", x.sitIn(0, 1), 1);
        for (int n : BAD_DAYS) {
            Check.refused(x, "sitIn(0, " + n + ")", x.sitIn(0, n), 2);
        }
        Check.refused(x, "sitIn(3, 61)", x.sitIn(3, 61), 1);
        Check.refused(x, "sitIn(-1, 0)", x.sitIn(-1, 0), 1);
    }

    // Promise 14
    private static void whiteIn() {
        GrudgeLoft x = Check.town(Check.TOWN);
        int[] ash = {0, 0, 0, 1, 3, 5, 7};
        for (int n = 0; n < ash.length; n++) {
            Check.granted(x, "whiteIn(0, " + n + ")", x.whiteIn(0, n), ash[n]);
        }
        Check.due("whiteIn(0, 60)", x.whiteIn(0, 60), 58 + 57);
        Check.days(x, 4);
        Check.due("whiteIn(0, 0) of day 4", x.whiteIn(0, 0), 3);
        Check.due("whiteIn(0, 2) of day 4", x.whiteIn(0, 2), 7);
        x.pay(2, 8);
        Check.due("whiteIn(0, 0), one paid", x.whiteIn(0, 0), 3);
        Check.due("whiteIn(0, 2), one paid", x.whiteIn(0, 2), 5);
        Check.due("whiteIn(2, 60)", x.whiteIn(2, 60), 60);
        for (int n : BAD_DAYS) {
            Check.refused(x, "whiteIn(0, " + n + ")", x.whiteIn(0, n), 2);
        }
        Check.refused(x, "whiteIn(3, 61)", x.whiteIn(3, 61), 1);
        Check.refused(x, "whiteIn(-1, 0)", x.whiteIn(-1, 0), 1);
    }

    // Promise 15
    private static void sitsIn() {
        GrudgeLoft x = Check.town(Check.TOWN);
        int[] due = {3, 4, 3, 5};
        for (int b = 0; b < due.length; b++) {
            Check.granted(x, "sitsIn(" + b + ")", x.sitsIn(b), due[b]);
        }
        Check.days(x, 4);
        Check.due("sitsIn(0) of day 4", x.sitsIn(0), 0);
        Check.due("sitsIn(3) of day 4", x.sitsIn(3), 1);
        x.meet(1, 3);
        Check.granted(x, "sitsIn(1), gone", x.sitsIn(1), -2);
        Check.refused(x, "sitsIn(4)", x.sitsIn(4), 1);
        Check.refused(x, "sitsIn(-1)", x.sitsIn(-1), 1);
        GrudgeLoft y = Check.town(FAR + "bird p plain from a to c day 0 wrong 1;bird q plain from a to c day 1 wrong 1");
        Check.due("sitsIn of 60", y.sitsIn(0), 60);
        Check.granted(y, "sitsIn of 61", y.sitsIn(1), -2);
        y.day();
        Check.due("sitsIn of 61, a day on", y.sitsIn(1), 60);
    }

    // Promise 16
    private static void worstDay() {
        GrudgeLoft x = Check.town(Check.TOWN);
        Check.granted(x, "worstDay()", x.worstDay(), 4);
        Check.days(x, 3);
        Check.due("worstDay() of day 3", x.worstDay(), 1);
        x.pay(2, 8);
        Check.due("worstDay(), one on each", x.worstDay(), 0);
        GrudgeLoft y = Check.town(FAR + "bird p plain from a to c day 0 wrong 1;bird q plain from a to c day 1 wrong 1");
        Check.due("worstDay() on day 60", y.worstDay(), 60);
        GrudgeLoft z = Check.town(FAR + "bird p plain from a to b day 0 wrong 1");
        Check.due("worstDay(), nobody", z.worstDay(), 0);
    }

    // Promise 17
    private static void whitest() {
        GrudgeLoft x = Check.town(Check.TOWN);
        Check.granted(x, "whitest(0)", x.whitest(0), 0);
        Check.due("whitest(3)", x.whitest(3), 0);
        Check.due("whitest(60)", x.whitest(60), 0);
        Check.days(x, 4);
        x.meet(1, 0);
        x.pay(2, 8);
        Check.due("whitest(0), ash 3, bay 2", x.whitest(0), 0);
        Check.due("whitest(4), cot 4", x.whitest(4), 2);
        for (int n : BAD_DAYS) {
            Check.refused(x, "whitest(" + n + ")", x.whitest(n), 2);
        }
    }

    // Promise 18
    private static void allSit() {
        GrudgeLoft x = Check.town(Check.TOWN);
        Check.granted(x, "allSit()", x.allSit(), 5);
        Check.days(x, 3);
        Check.due("allSit() of day 3", x.allSit(), 2);
        x.meet(1, 3);
        Check.due("allSit(), the late ones gone", x.allSit(), 0);
        GrudgeLoft y = Check.town(FAR + "bird p plain from a to c day 0 wrong 1;bird q plain from a to b day 0 wrong 1");
        Check.granted(y, "allSit() in 99", y.allSit(), -2);
        Check.days(y, 38);
        Check.due("allSit() in 61", y.allSit(), -2);
        y.day();
        Check.due("allSit() in 60", y.allSit(), 60);
        GrudgeLoft none = Check.town(FAR.substring(0, FAR.length() - 1));
        Check.granted(none, "allSit() of none", none.allSit(), 0);
    }

    // Promise 33
    private static void quiet() {
        GrudgeLoft x = Check.town(Check.TOWN);
        Check.granted(x, "quiet(0)", x.quiet(0), 3);
        Check.granted(x, "quiet(2)", x.quiet(2), 5);
        Check.days(x, 3);
        Check.due("quiet(0) of day 3", x.quiet(0), 0);
        Check.due("quiet(2) of day 3", x.quiet(2), 2);
        x.meet(1, 3);
        Check.due("quiet(2), its bird gone", x.quiet(2), 61);
        Check.refused(x, "quiet(3)", x.quiet(3), 1);
        Check.refused(x, "quiet(-1)", x.quiet(-1), 1);
        GrudgeLoft y = Check.town(FAR + "bird p plain from a to c day 0 wrong 1");
        Check.due("quiet but on day 60", y.quiet(2), 60);
    }
}
