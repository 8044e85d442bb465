/** Terms III, STRAYS, FITS and LOOK, and promises 34 to 40: for whom strays are, by what was seen. */
public final class StraysTest {
    /** s SITS on bay or cot from day 3 on; t on ash from day 5 on or on cot from day 3 on. */
    private static final String TWO = Check.HOUSES + "stray s from ash day 0;stray t from bay day 2";
    private static final String NOTHING_FITS = TWO + ";seen ash day 1 birds 1";
    /** 1 day for a place; s SITS from day 50 on on b, from day 40 on on c. */
    private static final String SLOW = "loft wings 1 hawks 0 storm 0;house a at 0 coins 0;house b at 50 coins 0;"
            + "house c at 40 coins 0;stray s from a day ";

    public static void main(String[] args) {
        straysFlyLikePlainBirds();
        nobodyPaysForStrays();
        rowsUnlikeTheirOwn();
        rowsOfTheMost();
        asManyAsWasSeen();
        birdsAndStrays();
        noneSeen();
        asIfNothingHadBeenPaid();
        fits();
        fitsOfNoStrays();
        fitsRefused();
        fitAtOrder();
        fitAtRefused();
        could();
        couldOfNothing();
        couldRefused();
        surely();
        surelyNot();
        surelyRefused();
        look();
        lookFirstSuch();
        lookUpToForty();
        lookOfNoFits();
        lookRefused();
        lookLeaves();
        lookLeavesOfNoFits();
        lookLeavesRefused();
        judge();
        judgeFromTheFirstDay();
        judgeNone();
        judgeRefused();
        fullTown();
        Check.end("StraysTest");
    }

    private static void rows(String name, GrudgeLoft x, int[][] due) {
        Check.granted(x, name + ": fits()", x::fits, due.length);
        for (int i = 0; i < due.length; i++) {
            for (int s = 0; s < due[i].length; s++) {
                int at = i;
                int stray = s;
                Check.granted(x, name + ": fitAt(" + i + ", " + s + ")", () -> x.fitAt(at, stray), due[i][s]);
            }
        }
        Check.refused(x, name + ": fitAt behind the last", () -> x.fitAt(due.length, 0), 1);
    }

    // Terms III, "STRAYS fly and SIT like plain birds": FOR a house they SIT on it, from their day and FLIGHT on
    private static void straysFlyLikePlainBirds() {
        rows("cot by 1 on day 3", Check.town(TWO + ";seen cot day 3 birds 1"), new int[][] {{1, 2}, {2, 0}});
        rows("cot by 0 on day 2", Check.town(TWO + ";seen cot day 2 birds 0"),
                new int[][] {{1, 0}, {1, 2}, {2, 0}, {2, 2}});
        rows("cot by 1 on day 2", Check.town(TWO + ";seen cot day 2 birds 1"), new int[][] {});
        rows("ash by 0 on day 4", Check.town(TWO + ";seen ash day 4 birds 0"),
                new int[][] {{1, 0}, {1, 2}, {2, 0}, {2, 2}});
        rows("ash by 1 on day 5", Check.town(TWO + ";seen ash day 5 birds 1"), new int[][] {{1, 0}, {2, 0}});
        rows("at the place of its own, at once", Check.town("loft wings 1 hawks 0 storm 0;house a at 0 coins 0;"
                + "house b at 0 coins 0;house c at 9 coins 0;stray s from a day 0;seen b day 0 birds 1"),
                new int[][] {{1}});
    }

    // Terms III, "(nobody pays for them)": they are no birds of whom something is owed or who SIT NOW
    private static void nobodyPaysForStrays() {
        GrudgeLoft x = Check.town(TWO);
        Check.days(x, 9);
        Check.due("birds()", x.birds(), 0);
        Check.due("birds told", x.size(4), 0);
        Check.due("owes(1)", x.owes(1), 0);
        Check.due("peace()", x.peace(), 0);
        Check.due("sitting on cot", x.house(2, 3), 0);
        Check.due("WHITE of cot", x.house(2, 2), 0);
        Check.due("day()", x.day(), 0);
        Check.refused(x, "pay(0, 1)", () -> x.pay(0, 1), 1);
        Check.refused(x, "aloft(0, 0)", () -> x.aloft(0, 0), 1);
    }

    // Terms III, "rows of houses, one for each stray, unlike its own": nothing seen, all of these
    private static void rowsUnlikeTheirOwn() {
        rows("nothing seen", Check.town(TWO), new int[][] {{1, 0}, {1, 2}, {2, 0}, {2, 2}});
        rows("of one stray", Check.town(Check.HOUSES + "stray s from bay day 0"), new int[][] {{0}, {2}});
        rows("of two houses", Check.town("loft wings 1 hawks 0 storm 0;house a at 0 coins 0;house b at 0 coins 0;"
                + "stray s from a day 0;stray t from b day 0;stray u from a day 0"), new int[][] {{1, 0, 1}});
        rows("a house told last", Check.town("loft wings 1 hawks 0 storm 0;house a at 0 coins 0;stray s from a day 0;"
                + "house b at 0 coins 0;house c at 0 coins 0"), new int[][] {{1}, {2}});
    }

    // Terms III, "all such.": 125 of them are the most there may be
    private static void rowsOfTheMost() {
        GrudgeLoft most = Check.town(Check.LOFT + "house a at 0 coins 0;house b at 1 coins 0;house c at 2 coins 0;"
                + "house d at 3 coins 0;house e at 4 coins 0;house f at 5 coins 0;"
                + "stray s from a day 0;stray t from f day 0;stray u from c day 0");
        Check.granted(most, "fits() of three", most::fits, 125);
        int[][] due = {{0, 100}, {25, 200}, {124, 545}};
        for (int[] row : due) {
            Check.due("row " + row[0], 100 * most.fitAt(row[0], 0) + 10 * most.fitAt(row[0], 1) + most.fitAt(row[0], 2),
                    row[1]);
        }
        Check.refused(most, "fitAt(125, 0)", () -> most.fitAt(125, 0), 1);
        Check.refused(most, "fitAt(0, 3)", () -> most.fitAt(0, 3), 1);
    }

    // Terms III, "as many birds and strays SIT as was seen": neither more nor fewer; all that was seen together
    private static void asManyAsWasSeen() {
        rows("cot by 0", Check.town(TWO + ";seen cot day 3 birds 0"), new int[][] {{1, 0}});
        rows("cot by 2", Check.town(TWO + ";seen cot day 3 birds 2"), new int[][] {{2, 2}});
        rows("cot by 3", Check.town(TWO + ";seen cot day 3 birds 3"), new int[][] {});
        rows("cot by 1, bay by 1", Check.town(TWO + ";seen cot day 30 birds 1;seen bay day 30 birds 1"),
                new int[][] {{1, 2}});
        rows("cot by 1, bay by 1, ash by 1",
                Check.town(TWO + ";seen cot day 30 birds 1;seen bay day 30 birds 1;seen ash day 5 birds 1"),
                new int[][] {});
    }

    // Terms III, "as many birds and strays SIT": birds on their SILLS, from the day they SIT
    private static void birdsAndStrays() {
        String town = Check.TOWN + ";stray s from bay day 0";
        rows("poe and the stray", Check.town(town + ";seen cot day 5 birds 2"), new int[][] {{2}});
        rows("poe alone", Check.town(town + ";seen cot day 5 birds 1"), new int[][] {{0}});
        rows("the stray alone, ahead of poe", Check.town(town + ";seen cot day 4 birds 1"), new int[][] {{2}});
        rows("pip alone", Check.town(town + ";seen bay day 30 birds 1"), new int[][] {{0}, {2}});
        rows("nobody on bay", Check.town(town + ";seen bay day 30 birds 0"), new int[][] {});
    }

    // Terms III, "as was seen": 0 birds seen, where nobody SITS, fits all; 9 seen are more than there are
    private static void noneSeen() {
        rows("0 of none", Check.town(TWO + ";seen bay day 0 birds 0"), new int[][] {{1, 0}, {1, 2}, {2, 0}, {2, 2}});
        rows("9 of none", Check.town(TWO + ";seen bay day 0 birds 9"), new int[][] {});
    }

    // Terms III, "from the first day on, as if nothing had been paid and none had met": ACTS change no FITS, no LOOK
    private static void asIfNothingHadBeenPaid() {
        GrudgeLoft x = Check.town(Check.TOWN + ";stray s from bay day 0;seen ash day 9 birds 2");
        x.meet(0, 1);
        Check.days(x, 5);
        x.pay(2, 8);
        rows("behind ACTS", x, new int[][] {{2}});
        Check.granted(x, "look() behind ACTS", x::look, 0);
        Check.granted(x, "lookLeaves() behind ACTS", x::lookLeaves, 1);
        Check.granted(x, "could(0) behind ACTS", () -> x.could(0), 0b100);
    }

    // Promise 34, "FITS: how many.": none, one, more
    private static void fits() {
        GrudgeLoft none = Check.town(NOTHING_FITS);
        Check.granted(none, "fits() of nothing", none::fits, 0);
        GrudgeLoft one = Check.town(TWO + ";seen cot day 3 birds 2");
        Check.granted(one, "fits() of one", one::fits, 1);
        GrudgeLoft x = Check.town(TWO);
        Check.granted(x, "fits()", x::fits, 4);
    }

    // Promise 34, "FITS: how many.": without strays the row of none, if what was seen is so
    private static void fitsOfNoStrays() {
        GrudgeLoft w = Check.town(Check.NO_BIRDS);
        Check.granted(w, "fits() of no strays, nothing seen", w::fits, 1);
        GrudgeLoft x = Check.town(Check.TOWN + ";seen ash day 4 birds 2");
        Check.granted(x, "fits() of no strays", x::fits, 1);
        GrudgeLoft y = Check.town(Check.TOWN + ";seen ash day 4 birds 3");
        Check.granted(y, "fits() of no strays, too many seen", y::fits, 0);
        GrudgeLoft z = Check.town(Check.TOWN + ";seen ash day 4 birds 1");
        Check.granted(z, "fits() of no strays, too few seen", z::fits, 0);
    }

    // Promise 34, "NONE: 1 (no TOWN).": ahead of the first loft
    private static void fitsRefused() {
        GrudgeLoft x = new GrudgeLoft();
        Check.refused(x, "fits()", x::fits, 1);
    }

    // Promise 35, "The i-th, by strays (the first one counts most): the house of a stray.": from the 0th on
    private static void fitAtOrder() {
        GrudgeLoft x = Check.town(TWO);
        int[][] due = {{1, 0}, {1, 2}, {2, 0}, {2, 2}};
        for (int i = 0; i < due.length; i++) {
            int at = i;
            Check.granted(x, "fitAt(" + i + ", 0)", () -> x.fitAt(at, 0), due[i][0]);
            Check.granted(x, "fitAt(" + i + ", 1)", () -> x.fitAt(at, 1), due[i][1]);
        }
    }

    // Promise 35, "NONE: 1.": no TOWN, no strays, no such FIT, no such stray
    private static void fitAtRefused() {
        GrudgeLoft none = new GrudgeLoft();
        Check.refused(none, "fitAt(0, 0), no town", () -> none.fitAt(0, 0), 1);
        GrudgeLoft x = Check.town(TWO);
        for (int i : new int[] {-1, 4, 125, Integer.MAX_VALUE, Integer.MIN_VALUE}) {
            Check.refused(x, "fitAt(" + i + ", 0)", () -> x.fitAt(i, 0), 1);
        }
        for (int s : new int[] {-1, 2, 3, Integer.MAX_VALUE, Integer.MIN_VALUE}) {
            Check.refused(x, "fitAt(0, " + s + ")", () -> x.fitAt(0, s), 1);
        }
        GrudgeLoft empty = Check.town(Check.TOWN);
        Check.refused(empty, "fitAt(0, 0), no strays", () -> empty.fitAt(0, 0), 1);
        GrudgeLoft nothing = Check.town(NOTHING_FITS);
        Check.refused(nothing, "fitAt(0, 0), no FITS", () -> nothing.fitAt(0, 0), 1);
    }

    // Promise 36, "Houses a stray is FOR by some of them, as bits.": one, two
    private static void could() {
        GrudgeLoft x = Check.town(TWO);
        Check.granted(x, "could(0)", () -> x.could(0), 0b110);
        Check.granted(x, "could(1)", () -> x.could(1), 0b101);
        GrudgeLoft y = Check.town(TWO + ";seen cot day 30 birds 1;seen bay day 30 birds 1");
        Check.granted(y, "could(0) of one", () -> y.could(0), 0b010);
        Check.granted(y, "could(1) of one", () -> y.could(1), 0b100);
    }

    // Promise 36, "by some of them": there being no FITS, none
    private static void couldOfNothing() {
        GrudgeLoft x = Check.town(NOTHING_FITS);
        Check.granted(x, "could(0)", () -> x.could(0), 0);
        Check.granted(x, "could(1)", () -> x.could(1), 0);
    }

    // Promise 36, "NONE: 1.": no TOWN, no strays, no such stray
    private static void couldRefused() {
        GrudgeLoft none = new GrudgeLoft();
        Check.refused(none, "could(0), no town", () -> none.could(0), 1);
        GrudgeLoft empty = Check.town(Check.TOWN);
        Check.refused(empty, "could(0), no strays", () -> empty.could(0), 1);
        GrudgeLoft x = Check.town(TWO);
        for (int s : new int[] {-1, 2, 3, Integer.MAX_VALUE, Integer.MIN_VALUE}) {
            Check.refused(x, "could(" + s + ")", () -> x.could(s), 1);
        }
    }

    // Promise 37, "The one by all;": of one FIT, of more
    private static void surely() {
        GrudgeLoft x = Check.town(TWO + ";seen cot day 3 birds 2");
        Check.granted(x, "surely(0)", () -> x.surely(0), 2);
        Check.granted(x, "surely(1)", () -> x.surely(1), 2);
        GrudgeLoft y = Check.town(TWO + ";seen ash day 5 birds 1");
        Check.granted(y, "surely(0) of two", () -> y.surely(0), -2);
        Check.granted(y, "surely(1) of two", () -> y.surely(1), 0);
    }

    // Promise 37, "-2.": by FITS it's for more than one, or there are no FITS
    private static void surelyNot() {
        GrudgeLoft x = Check.town(TWO);
        Check.granted(x, "surely(0)", () -> x.surely(0), -2);
        Check.granted(x, "surely(1)", () -> x.surely(1), -2);
        GrudgeLoft nothing = Check.town(NOTHING_FITS);
        Check.granted(nothing, "surely(0) of nothing", () -> nothing.surely(0), -2);
    }

    // Promise 37, "NONE: 1.": no TOWN, no strays, no such stray
    private static void surelyRefused() {
        GrudgeLoft none = new GrudgeLoft();
        Check.refused(none, "surely(0), no town", () -> none.surely(0), 1);
        GrudgeLoft empty = Check.town(Check.TOWN);
        Check.refused(empty, "surely(0), no strays", () -> empty.surely(0), 1);
        GrudgeLoft x = Check.town(TWO);
        for (int s : new int[] {-1, 2, 3, Integer.MAX_VALUE, Integer.MIN_VALUE}) {
            Check.refused(x, "surely(" + s + ")", () -> x.surely(s), 1);
        }
    }

    // Promise 38, "LOOK: 100 times the house and the day;": where at most fewest FITS are left
    private static void look() {
        // ash from day 5 on parts 2 and 2; bay 2 and 2; cot 1, 2 and 1
        GrudgeLoft x = Check.town(TWO);
        Check.granted(x, "look() of four", x::look, 5);
        // a and b part 3 and 6; so does c from day 10 on, and 4, 4 and 1 from day 11 on
        GrudgeLoft y = Check.town("loft wings 9 hawks 0 storm 0;house a at 0 coins 0;house b at 0 coins 0;"
                + "house c at 90 coins 0;house d at 90 coins 0;stray s from a day 0;stray t from b day 1");
        Check.granted(y, "look() of nine", y::look, 211);
        Check.granted(y, "lookLeaves() of nine", y::lookLeaves, 4);
    }

    // Terms III, "the first such by houses, days.": of like ones; there being one FIT alone, at once
    private static void lookFirstSuch() {
        GrudgeLoft one = Check.town(TWO + ";seen cot day 3 birds 2");
        Check.granted(one, "look() of one", one::look, 0);
        // {1, 2}, {2, 0}: ash from day 2 + 3 on, bay from day 3 on
        GrudgeLoft two = Check.town(TWO + ";seen cot day 3 birds 1");
        Check.granted(two, "look() of two", two::look, 5);
        GrudgeLoft none = Check.town(Check.TOWN);
        Check.granted(none, "look() of no strays", none::look, 0);
    }

    // Terms III, "the day (0 .. 40)": by the 40th it may be, by the 41st not
    private static void lookUpToForty() {
        GrudgeLoft late = Check.town(SLOW + "0");
        Check.granted(late, "look() on day 40", late::look, 240);
        Check.granted(late, "lookLeaves() on day 40", late::lookLeaves, 1);
        GrudgeLoft never = Check.town(SLOW + "1");
        Check.granted(never, "look() behind day 40", never::look, 0);
        Check.granted(never, "lookLeaves() behind day 40", never::lookLeaves, 2);
    }

    // Promise 38, "-2 no FITS.": with strays and without
    private static void lookOfNoFits() {
        GrudgeLoft x = Check.town(NOTHING_FITS);
        Check.granted(x, "look()", x::look, -2);
        GrudgeLoft y = Check.town(Check.TOWN + ";seen ash day 4 birds 3");
        Check.granted(y, "look() of no strays", y::look, -2);
    }

    // Promise 38, "NONE: 1 (no TOWN).": ahead of the first loft
    private static void lookRefused() {
        GrudgeLoft x = new GrudgeLoft();
        Check.refused(x, "look()", x::look, 1);
    }

    // Promise 39, "How many are left at most then;": two of four, one of two, one of one
    private static void lookLeaves() {
        GrudgeLoft x = Check.town(TWO);
        Check.granted(x, "lookLeaves() of four", x::lookLeaves, 2);
        GrudgeLoft two = Check.town(TWO + ";seen cot day 3 birds 1");
        Check.granted(two, "lookLeaves() of two", two::lookLeaves, 1);
        GrudgeLoft one = Check.town(TWO + ";seen cot day 3 birds 2");
        Check.granted(one, "lookLeaves() of one", one::lookLeaves, 1);
        GrudgeLoft none = Check.town(Check.TOWN);
        Check.granted(none, "lookLeaves() of no strays", none::lookLeaves, 1);
    }

    // Promise 39, "-2 likewise.": there being no FITS
    private static void lookLeavesOfNoFits() {
        GrudgeLoft x = Check.town(NOTHING_FITS);
        Check.granted(x, "lookLeaves()", x::lookLeaves, -2);
    }

    // Promise 39, "NONE: 1 (no TOWN).": ahead of the first loft
    private static void lookLeavesRefused() {
        GrudgeLoft x = new GrudgeLoft();
        Check.refused(x, "lookLeaves()", x::lookLeaves, 1);
    }

    // Promise 40, "The first seen, as told, that has fewer birds than SIT there without strays": one fewer, not as many
    private static void judge() {
        GrudgeLoft x = Check.town(Check.TOWN + ";stray s from bay day 0;"
                + "seen ash day 4 birds 2;seen ash day 5 birds 3;seen cot day 5 birds 0;seen bay day 9 birds 0");
        Check.granted(x, "judge()", x::judge, 2);
        GrudgeLoft y = Check.town(Check.TOWN + ";seen ash day 4 birds 1");
        Check.granted(y, "judge() at once", y::judge, 0);
        GrudgeLoft last = Check.town(Check.TOWN + ";seen ash day 0 birds 0;seen ash day 1 birds 0;"
                + "seen ash day 2 birds 0;seen ash day 3 birds 1;seen ash day 4 birds 1");
        Check.granted(last, "judge() of the last", last::judge, 4);
    }

    // Promise 40, "from the first day on likewise;": nothing having been paid, none having met
    private static void judgeFromTheFirstDay() {
        GrudgeLoft x = Check.town(Check.TOWN + ";seen ash day 9 birds 2;seen bay day 9 birds 0");
        Check.granted(x, "judge()", x::judge, 1);
        x.meet(0, 1);
        Check.days(x, 5);
        x.pay(2, 8);
        Check.granted(x, "judge() behind ACTS", x::judge, 1);
    }

    // Promise 40, "-2.": nothing seen, as many, more
    private static void judgeNone() {
        GrudgeLoft x = Check.town(Check.TOWN);
        Check.granted(x, "judge(), nothing seen", x::judge, -2);
        GrudgeLoft y = Check.town(Check.TOWN + ";seen ash day 4 birds 9;seen cot day 5 birds 1;seen ash day 2 birds 0");
        Check.granted(y, "judge(), as many or more", y::judge, -2);
        GrudgeLoft z = Check.town(NOTHING_FITS);
        Check.granted(z, "judge(), though nothing fits", z::judge, -2);
    }

    // Promise 40, "NONE: 1 (no TOWN).": ahead of the first loft
    private static void judgeRefused() {
        GrudgeLoft x = new GrudgeLoft();
        Check.refused(x, "judge()", x::judge, 1);
    }

    // Terms I, "up to 5)": of three strays and five seen, and of fewer behind them, all is told as of others
    private static void fullTown() {
        GrudgeLoft x = Check.town(Check.FULL);
        Check.due("fits()", x.fits(), 80);
        int[][] due = {{0, 100}, {1, 101}, {5, 120}, {79, 444}};
        for (int[] row : due) {
            Check.due("row " + row[0], 100 * x.fitAt(row[0], 0) + 10 * x.fitAt(row[0], 1) + x.fitAt(row[0], 2), row[1]);
        }
        int[] could = {0b11110, 0b11101, 0b11111};
        for (int s = 0; s < could.length; s++) {
            Check.due("could(" + s + ")", x.could(s), could[s]);
            Check.due("surely(" + s + ")", x.surely(s), -2);
        }
        Check.due("look()", x.look(), 203);
        Check.due("lookLeaves()", x.lookLeaves(), 36);
        Check.due("judge()", x.judge(), -2);
        Check.loft(x, TWO + ";seen bay day 0 birds 0");
        rows("behind a full one", x, new int[][] {{1, 0}, {1, 2}, {2, 0}, {2, 2}});
        Check.due("look() behind a full one", x.look(), 5);
        Check.due("judge() behind a full one", x.judge(), -2);
    }
}
