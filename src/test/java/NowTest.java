/** Promises 6 to 11: houses and birds NOW. */
public final class NowTest {
    public static void main(String[] args) {
        withoutTown();
        houses();
        birdsAsTold();
        sills();
        whereBirdsAre();
        apart();
        present();
        fullest();
        clean();
        Check.end("NowTest");
    }

    private static void withoutTown() {
        GrudgeLoft x = new GrudgeLoft();
        Check.refused(x, "house(0, 0)", x.house(0, 0), 1);
        Check.refused(x, "bird(0, 0)", x.bird(0, 0), 1);
        Check.refused(x, "apart(0, 1)", x.apart(0, 1), 1);
        Check.refused(x, "birds()", x.birds(), 1);
        Check.refused(x, "fullest()", x.fullest(), 1);
        Check.refused(x, "clean()", x.clean(), 1);
    }

    // Promise 6
    private static void houses() {
        GrudgeLoft x = Check.town(Check.TOWN);
        Check.granted(x, "place of cot", x.house(2, 0), 30);
        Check.granted(x, "coins of bay", x.house(1, 1), 50);
        Check.granted(x, "WHITE of ash", x.house(0, 2), 0);
        Check.granted(x, "sitting on ash", x.house(0, 3), 0);
        Check.granted(x, "for ash", x.house(0, 4), 0b0110);
        Check.granted(x, "for bay", x.house(1, 4), 0b1001);
        Check.days(x, 5);
        Check.due("sitting on ash, day 5", x.house(0, 3), 0b0110);
        Check.due("sitting on bay, day 5", x.house(1, 3), 0b0001);
        Check.due("sitting on cot, day 5", x.house(2, 3), 0b1000);
        Check.due("WHITE of ash, day 5", x.house(0, 2), 1 + 2 + 2);
        Check.due("WHITE of bay, day 5", x.house(1, 2), 3);
        Check.due("WHITE of cot, day 5", x.house(2, 2), 1);
        x.pay(2, 8);
        Check.due("coins of ash, 8 paid", x.house(0, 1), 12);
        Check.due("sitting on ash, one gone", x.house(0, 3), 0b0010);
        Check.due("for ash, one gone", x.house(0, 4), 0b0010);
        Check.due("WHITE of ash, one gone", x.house(0, 2), 5);
        x.day();
        Check.due("WHITE of ash, day 6", x.house(0, 2), 6);
        for (int what : new int[] {-1, 5, Integer.MAX_VALUE, Integer.MIN_VALUE}) {
            Check.refused(x, "house(0, " + what + ")", x.house(0, what), 1);
        }
        for (int h : new int[] {-1, 3, 6, Integer.MAX_VALUE, Integer.MIN_VALUE}) {
            Check.refused(x, "house(" + h + ", 0)", x.house(h, 0), 1);
        }

        // who SITS from the first day on makes no house WHITE by that day
        GrudgeLoft y = Check.town(Check.LOFT + "house a at 0 coins 1;house b at 0 coins 1;"
                + "bird x plain from a to b day 0 wrong 1");
        Check.due("sitting on the first day", y.house(1, 3), 1);
        Check.due("WHITE on the first day", y.house(1, 2), 0);
        y.day();
        Check.due("WHITE on the second day", y.house(1, 2), 1);
    }

    // Promise 7
    private static void birdsAsTold() {
        GrudgeLoft x = Check.town(Check.TOWN);
        int[][] told = {
            {0, 0, 1, 1, 3, 12, 12, 1}, {1, 1, 0, 0, 3, 5, 5, 0}, {2, 2, 0, 0, 3, 8, 8, 1}, {3, 0, 1, 2, 3, 6, 6, 0}};
        for (int b = 0; b < told.length; b++) {
            for (int what = 0; what < told[b].length; what++) {
                Check.granted(x, "bird(" + b + ", " + what + ")", x.bird(b, what), told[b][what]);
            }
        }
        Check.days(x, 5);
        x.pay(0, 5);
        Check.due("NEED stays", x.bird(0, 5), 12);
        Check.due("LEFT is less", x.bird(0, 6), 7);
        for (int wrong : new int[] {-1, 4, 7, Integer.MAX_VALUE, Integer.MIN_VALUE}) {
            Check.refused(x, "bird(" + wrong + ", 0)", x.bird(wrong, 0), 1);
        }
        for (int what : new int[] {-1, 8, Integer.MAX_VALUE, Integer.MIN_VALUE}) {
            Check.refused(x, "bird(0, " + what + ")", x.bird(0, what), 1);
        }
        GrudgeLoft y = Check.town(Check.HOUSES + "bird a honest from ash to bay day 0 wrong 1;"
                + "bird b honest from ash to bay day 0 wrong 60;bird c proud from ash to bay day 0 wrong 60;"
                + "bird d blind from ash to bay day 0 wrong 60");
        Check.due("NEED of an honest one, 1", y.bird(0, 5), 1);
        Check.due("NEED of an honest one, 60", y.bird(1, 5), 30);
        Check.due("NEED of a proud one, 60", y.bird(2, 5), 120);
        Check.due("NEED of a blind one, 60", y.bird(3, 5), 60);
    }

    private static void sills() {
        // b is 4 from a and 4 from c: of like ones the first; d is told last, behind the birds
        GrudgeLoft x = Check.town("loft wings 3 hawks 0 storm 0;house a at 1 coins 0;house b at 5 coins 0;"
                + "house c at 9 coins 0;bird p blind from c to b day 0 wrong 1;bird q blind from b to c day 0 wrong 1;"
                + "bird r blind from a to b day 0 wrong 1;bird s plain from c to a day 0 wrong 1;house d at 11 coins 0");
        Check.due("SILL of like ones", x.bird(0, 3), 0);
        Check.due("FLIGHT to the first of like ones", x.bird(0, 4), 3);
        Check.due("SILL told last", x.bird(1, 3), 3);
        Check.due("FLIGHT to the SILL told last", x.bird(1, 4), 2);
        Check.due("SILL may be its own", x.bird(2, 3), 0);
        Check.due("FLIGHT to its own", x.bird(2, 4), 0);
        Check.due("SILL of a plain one", x.bird(3, 3), 0);
        Check.due("where on its own", x.bird(2, 7), 2);
    }

    private static void whereBirdsAre() {
        GrudgeLoft x = Check.town(Check.TOWN);
        int[] where = {0, 1, 1, 1, 2, 2};
        for (int day = 0; day < where.length; day++) {
            Check.due("where pat is, day " + day, x.bird(1, 7), where[day]);
            x.day();
        }
        x.pay(1, 5);
        Check.due("where pat is, paid", x.bird(1, 7), 3);
        Check.due("LEFT of pat, paid", x.bird(1, 6), 0);
    }

    // Promise 8
    private static void apart() {
        GrudgeLoft x = Check.town(Check.TOWN);
        Check.granted(x, "apart(0, 1)", x.apart(0, 1), 3);
        Check.granted(x, "apart(2, 0)", x.apart(2, 0), 3);
        Check.granted(x, "apart(2, 1)", x.apart(2, 1), 1);
        Check.refused(x, "apart(1, 1)", x.apart(1, 1), 1);
        Check.refused(x, "apart(3, 1)", x.apart(3, 1), 1);
        Check.refused(x, "apart(1, 3)", x.apart(1, 3), 1);
        Check.refused(x, "apart(-1, 1)", x.apart(-1, 1), 1);
        Check.refused(x, "apart(1, min)", x.apart(1, Integer.MIN_VALUE), 1);
        GrudgeLoft y = Check.town("loft wings 1 hawks 0 storm 0;house a at 0 coins 0;house b at 99 coins 0;"
                + "house c at 99 coins 0");
        Check.due("apart by 99", y.apart(0, 1), 99);
        Check.due("apart by none", y.apart(1, 2), 0);
    }

    // Promise 9
    private static void present() {
        GrudgeLoft x = Check.town(Check.TOWN);
        Check.granted(x, "birds()", x.birds(), 0b1111);
        x.meet(0, 1);
        Check.granted(x, "birds(), two met", x.birds(), 0b1100);
        GrudgeLoft y = Check.town(Check.HOUSES.substring(0, Check.HOUSES.length() - 1));
        Check.granted(y, "birds() of none", y.birds(), 0);
    }

    // Promise 10
    private static void fullest() {
        GrudgeLoft x = Check.town(Check.HOUSES + "bird p plain from bay to cot day 0 wrong 1;"
                + "bird q plain from ash to bay day 0 wrong 2;bird r plain from cot to bay day 5 wrong 2");
        Check.granted(x, "fullest(), nobody", x.fullest(), 0);
        Check.days(x, 1);
        Check.due("fullest(), one on cot", x.fullest(), 2);
        Check.days(x, 2);
        Check.due("fullest(), one on each", x.fullest(), 1);
        Check.days(x, 3);
        x.pay(1, 2);
        x.pay(2, 2);
        Check.due("fullest(), the others gone", x.fullest(), 2);
    }

    // Promise 11
    private static void clean() {
        GrudgeLoft x = Check.town(Check.TOWN);
        Check.granted(x, "clean()", x.clean(), 0b100);
        x.meet(0, 1);
        Check.due("clean(), two met", x.clean(), 0b100);
        Check.days(x, 5);
        x.pay(2, 8);
        Check.due("clean(), none for ash", x.clean(), 0b101);
    }
}
