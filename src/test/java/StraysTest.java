/** Promises 34 to 40: for whom strays are, by what was seen. */
public final class StraysTest {
    private static final String TWO = Check.HOUSES + "stray s from ash day 0;stray t from bay day 2";

    public static void main(String[] args) {
        withoutTown();
        nothingSeen();
        seen();
        birdsCount();
        nothingFits();
        noStrays();
        look();
        judge();
        actsChangeNothing();
        Check.end("StraysTest");
    }

    private static void withoutTown() {
        GrudgeLoft x = new GrudgeLoft();
        Check.refused(x, "fits()", x.fits(), 1);
        Check.refused(x, "fitAt(0, 0)", x.fitAt(0, 0), 1);
        Check.refused(x, "could(0)", x.could(0), 1);
        Check.refused(x, "surely(0)", x.surely(0), 1);
        Check.refused(x, "look()", x.look(), 1);
        Check.refused(x, "lookLeaves()", x.lookLeaves(), 1);
        Check.refused(x, "judge()", x.judge(), 1);
    }

    private static void rows(String name, GrudgeLoft x, int[][] due) {
        Check.granted(x, name + ": fits()", x.fits(), due.length);
        for (int i = 0; i < due.length; i++) {
            for (int s = 0; s < due[i].length; s++) {
                Check.granted(x, name + ": fitAt(" + i + ", " + s + ")", x.fitAt(i, s), due[i][s]);
            }
        }
        Check.refused(x, name + ": fitAt behind the last", x.fitAt(due.length, 0), 1);
        Check.refused(x, name + ": fitAt(-1, 0)", x.fitAt(-1, 0), 1);
    }

    // Promises 34 to 37
    private static void nothingSeen() {
        GrudgeLoft x = Check.town(TWO);
        rows("nothing seen", x, new int[][] {{1, 0}, {1, 2}, {2, 0}, {2, 2}});
        Check.refused(x, "fitAt(0, 2)", x.fitAt(0, 2), 1);
        Check.refused(x, "fitAt(0, -1)", x.fitAt(0, -1), 1);
        Check.granted(x, "could(0)", x.could(0), 0b110);
        Check.granted(x, "could(1)", x.could(1), 0b101);
        Check.refused(x, "could(2)", x.could(2), 1);
        Check.refused(x, "could(-1)", x.could(-1), 1);
        Check.granted(x, "surely(0)", x.surely(0), -2);
        Check.refused(x, "surely(2)", x.surely(2), 1);
        Check.refused(x, "surely(-1)", x.surely(-1), 1);
        Check.granted(x, "judge(), nothing seen", x.judge(), -2);

        GrudgeLoft most = Check.town(Check.LOFT + "house a at 0 coins 0;house b at 1 coins 0;house c at 2 coins 0;"
                + "house d at 3 coins 0;house e at 4 coins 0;house f at 5 coins 0;"
                + "stray s from a day 0;stray t from f day 0;stray u from c day 0");
        Check.due("fits() of three", most.fits(), 125);
        Check.due("first", 100 * most.fitAt(0, 0) + 10 * most.fitAt(0, 1) + most.fitAt(0, 2), 100);
        Check.due("last", 100 * most.fitAt(124, 0) + 10 * most.fitAt(124, 1) + most.fitAt(124, 2), 545);
        Check.due("26th", 100 * most.fitAt(25, 0) + 10 * most.fitAt(25, 1) + most.fitAt(25, 2), 200);
    }

    private static void seen() {
        // t is over cot, one day from bay, on day 3 or never
        GrudgeLoft x = Check.town(TWO + ";seen cot day 3 birds 1");
        rows("cot by 1 on day 3", x, new int[][] {{1, 2}, {2, 0}});
        Check.due("could(0)", x.could(0), 0b110);
        GrudgeLoft early = Check.town(TWO + ";seen cot day 2 birds 0");
        rows("cot by 0 on day 2", early, new int[][] {{1, 0}, {1, 2}, {2, 0}, {2, 2}});
        GrudgeLoft both = Check.town(TWO + ";seen cot day 3 birds 2");
        rows("cot by 2 on day 3", both, new int[][] {{2, 2}});
        Check.granted(both, "surely(0)", both.surely(0), 2);
        GrudgeLoft two = Check.town(TWO + ";seen cot day 30 birds 1;seen bay day 30 birds 1");
        rows("cot and bay by 1", two, new int[][] {{1, 2}});
        Check.granted(two, "surely(0)", two.surely(0), 1);
        Check.granted(two, "could(0)", two.could(0), 0b010);
    }

    private static void birdsCount() {
        // poe, blind, SITS on cot from day 5 on; pip and pat on bay, ash from days 3, 4 on
        GrudgeLoft x = Check.town(Check.TOWN + ";stray s from bay day 0;seen cot day 5 birds 2");
        rows("poe and the stray", x, new int[][] {{2}});
        GrudgeLoft y = Check.town(Check.TOWN + ";stray s from bay day 0;seen cot day 5 birds 1");
        rows("poe alone", y, new int[][] {{0}});
        GrudgeLoft z = Check.town(Check.TOWN + ";stray s from bay day 0;seen bay day 30 birds 1");
        rows("pip alone", z, new int[][] {{0}, {2}});
    }

    private static void nothingFits() {
        GrudgeLoft x = Check.town(TWO + ";seen ash day 1 birds 1");
        rows("nothing", x, new int[][] {});
        Check.granted(x, "could(0) of nothing", x.could(0), 0);
        Check.granted(x, "surely(0) of nothing", x.surely(0), -2);
        Check.granted(x, "look() of nothing", x.look(), -2);
        Check.granted(x, "lookLeaves() of nothing", x.lookLeaves(), -2);
        Check.granted(x, "judge() of nothing", x.judge(), -2);
    }

    private static void noStrays() {
        GrudgeLoft x = Check.town(Check.TOWN + ";seen ash day 4 birds 2");
        Check.granted(x, "fits() of no strays", x.fits(), 1);
        Check.refused(x, "fitAt(0, 0) of no strays", x.fitAt(0, 0), 1);
        Check.granted(x, "look() of no strays", x.look(), 0);
        Check.granted(x, "lookLeaves() of no strays", x.lookLeaves(), 1);
        GrudgeLoft y = Check.town(Check.TOWN + ";seen ash day 4 birds 3");
        Check.granted(y, "fits() of no strays, too many seen", y.fits(), 0);
    }

    // Promises 38, 39
    private static void look() {
        // of {1, 0}, {1, 2}, {2, 0}, {2, 2} cot from day 3 on parts 1, 2, 1: no house does better
        GrudgeLoft x = Check.town(TWO);
        Check.granted(x, "look() of four", x.look(), 5);
        Check.granted(x, "lookLeaves() of four", x.lookLeaves(), 2);
        GrudgeLoft both = Check.town(TWO + ";seen cot day 3 birds 2");
        Check.due("look() of one", both.look(), 0);
        Check.due("lookLeaves() of one", both.lookLeaves(), 1);
        // {1, 2}, {2, 0}: ash from day 2 + 3 on
        GrudgeLoft two = Check.town(TWO + ";seen cot day 3 birds 1");
        Check.due("look() of two", two.look(), 5);
        Check.due("lookLeaves() of two", two.lookLeaves(), 1);
        // by c on day 40 s, from a, is there or not; ahead of it no look parts the two
        GrudgeLoft late = Check.town("loft wings 1 hawks 0 storm 0;house a at 0 coins 0;house b at 50 coins 0;"
                + "house c at 40 coins 0;stray s from a day 0");
        Check.due("look() on day 40", late.look(), 240);
        Check.due("lookLeaves() on day 40", late.lookLeaves(), 1);
        GrudgeLoft never = Check.town("loft wings 1 hawks 0 storm 0;house a at 0 coins 0;house b at 50 coins 0;"
                + "house c at 40 coins 0;stray s from a day 1");
        Check.due("look() behind day 40", never.look(), 0);
        Check.due("lookLeaves() behind day 40", never.lookLeaves(), 2);
    }

    // Promise 40
    private static void judge() {
        GrudgeLoft x = Check.town(Check.TOWN + ";stray s from bay day 0;"
                + "seen ash day 4 birds 2;seen ash day 5 birds 3;seen cot day 5 birds 0;seen bay day 9 birds 0");
        Check.granted(x, "judge()", x.judge(), 2);
        GrudgeLoft y = Check.town(Check.TOWN + ";seen ash day 4 birds 1");
        Check.granted(y, "judge() at once", y.judge(), 0);
        GrudgeLoft z = Check.town(Check.TOWN + ";seen ash day 4 birds 9");
        Check.granted(z, "judge() of more", z.judge(), -2);
    }

    private static void actsChangeNothing() {
        GrudgeLoft x = Check.town(Check.TOWN + ";stray s from bay day 0;seen ash day 9 birds 2;seen bay day 9 birds 0");
        Check.due("fits() ahead", x.fits(), 0);
        Check.due("judge() ahead", x.judge(), 1);
        Check.days(x, 5);
        x.meet(0, 1);
        x.pay(2, 8);
        Check.due("fits() behind acts", x.fits(), 0);
        Check.due("judge() behind acts", x.judge(), 1);
        GrudgeLoft y = Check.town(Check.TOWN + ";stray s from bay day 0;seen ash day 9 birds 2");
        y.meet(0, 1);
        rows("behind a meeting", y, new int[][] {{2}});
        Check.due("look() behind a meeting", y.look(), 0);
    }
}
