/** Promises 44 to 48: hawks by chance, storms by draws. */
public final class ChanceTest {
    public static void main(String[] args) {
        withoutTown();
        safe();
        left();
        stays();
        extremes();
        aloft();
        moreThanNinety();
        last();
        lastOfNone();
        Check.end("ChanceTest");
    }

    private static void withoutTown() {
        GrudgeLoft x = new GrudgeLoft();
        Check.refused(x, "safe(0, 9), no town", x.safe(0, 9, true), 1);
        Check.refused(x, "left(0, 8), no town", x.left(0, 8, true), 1);
        Check.refused(x, "stays(9), no town", x.stays(9, true), 1);
        Check.refused(x, "aloft(0, -1), no town", x.aloft(0, -1), 1);
        Check.refused(x, "last(-1), no town", x.last(-1), 1);
    }

    private static void safely(GrudgeLoft x, int n, long upper, long lower) {
        Check.granted(x, "safe(0, " + n + ") upper", x.safe(0, n, false), upper);
        Check.granted(x, "safe(0, " + n + ") lower", x.safe(0, n, true), lower);
    }

    // Promise 44, hawks by 25: three of four
    private static void safe() {
        GrudgeLoft x = Check.town(Check.TOWN);
        Check.refused(x, "safe in FLIGHT", x.safe(0, 1, true), 5);
        Check.refused(x, "safe in the loft", x.safe(1, 0, true), 5);
        Check.refused(x, "safe in FLIGHT for 9", x.safe(0, 9, true), 2);
        Check.refused(x, "safe of none such for 9", x.safe(4, 9, true), 1);
        Check.days(x, 3);
        safely(x, 0, 1, 1);
        safely(x, 1, 3, 4);
        safely(x, 2, 9, 16);
        safely(x, 8, 6561, 65536);
        Check.refused(x, "safe(0, -1)", x.safe(0, -1, true), 2);
        Check.refused(x, "safe(0, 9)", x.safe(0, 9, false), 2);
        Check.refused(x, "safe(-1, 0)", x.safe(-1, 0, true), 1);
        x.meet(0, 1);
        Check.refused(x, "safe of one gone", x.safe(0, 1, true), 5);
    }

    private static void leaving(GrudgeLoft x, int h, int many, long upper, long lower) {
        Check.granted(x, "left(" + h + ", " + many + ") upper", x.left(h, many, false), upper);
        Check.granted(x, "left(" + h + ", " + many + ") lower", x.left(h, many, true), lower);
    }

    // Promise 45
    private static void left() {
        GrudgeLoft x = Check.town(Check.TOWN);
        leaving(x, 0, 0, 1, 1);
        leaving(x, 0, 1, 0, 1);
        Check.days(x, 4);
        leaving(x, 0, 0, 1, 16);
        leaving(x, 0, 1, 3, 8);
        leaving(x, 0, 2, 9, 16);
        leaving(x, 0, 3, 0, 1);
        leaving(x, 0, 7, 0, 1);
        leaving(x, 1, 1, 3, 4);
        for (int many : new int[] {-1, 8, Integer.MAX_VALUE, Integer.MIN_VALUE}) {
            Check.refused(x, "left(0, " + many + ")", x.left(0, many, true), 2);
        }
        Check.refused(x, "left(3, 8)", x.left(3, 8, true), 1);
        Check.refused(x, "left(-1, 0)", x.left(-1, 0, true), 1);
    }

    // Promise 46: 3/4, 3/4 + 9/16, ..
    private static void stays() {
        GrudgeLoft x = Check.town(Check.TOWN);
        long[][] due = {{0, 1}, {3, 4}, {21, 16}, {111, 64}};
        for (int n = 0; n < due.length; n++) {
            Check.granted(x, "stays(" + n + ") upper", x.stays(n, false), due[n][0]);
            Check.granted(x, "stays(" + n + ") lower", x.stays(n, true), due[n][1]);
        }
        for (int n : new int[] {-1, 9, Integer.MAX_VALUE, Integer.MIN_VALUE}) {
            Check.refused(x, "stays(" + n + ")", x.stays(n, true), 2);
        }
    }

    private static GrudgeLoft sevenSitting(int hawks) {
        StringBuilder text = new StringBuilder("loft wings 1 hawks ").append(hawks).append(" storm 0;"
                + "house a at 0 coins 0;house b at 0 coins 0");
        for (char name = 'p'; name <= 'v'; name++) {
            text.append(";bird ").append(name).append(" plain from a to b day 0 wrong 1");
        }
        return Check.town(text.toString());
    }

    private static void extremes() {
        GrudgeLoft x = sevenSitting(1);
        safely(x, 8, 9_227_446_944_279_201L, 10_000_000_000_000_000L);
        leaving(x, 1, 6, 6_590_361_045_807L, 100_000_000_000_000L);
        leaving(x, 1, 7, 93_206_534_790_699L, 100_000_000_000_000L);
        GrudgeLoft y = sevenSitting(50);
        leaving(y, 1, 3, 35, 128);
        leaving(y, 1, 4, 35, 128);
        GrudgeLoft all = sevenSitting(100);
        safely(all, 0, 1, 1);
        safely(all, 3, 0, 1);
        leaving(all, 1, 0, 1, 1);
        leaving(all, 1, 7, 0, 1);
        Check.due("stays(8) by hawks 100, upper", all.stays(8, false), 0);
        Check.due("stays(8) by hawks 100, lower", all.stays(8, true), 1);
        GrudgeLoft none = sevenSitting(0);
        safely(none, 8, 1, 1);
        leaving(none, 1, 7, 1, 1);
        leaving(none, 1, 6, 0, 1);
        Check.due("stays(8) by no hawks, upper", none.stays(8, false), 8);
        Check.due("stays(8) by no hawks, lower", none.stays(8, true), 1);
    }

    // Promise 47, storm 40: from SEED 0 DRAWS 74, 5624, 28652, 51790
    private static void aloft() {
        GrudgeLoft x = Check.town(Check.TOWN);
        Check.granted(x, "aloft(0, 0)", x.aloft(0, 0), 4);
        Check.granted(x, "aloft(1, 51790)", x.aloft(1, 51790), 6);
        Check.granted(x, "aloft(2, 4950)", x.aloft(2, 4950), 5);
        Check.granted(x, "aloft(3, 50257), a DRAW of just 40", x.aloft(3, 50257), 4);
        Check.granted(x, "aloft(0, 65536): 65536, ever again", x.aloft(0, 65536), -2);
        for (int seed : new int[] {-1, 65537, Integer.MAX_VALUE, Integer.MIN_VALUE}) {
            Check.refused(x, "aloft(0, " + seed + ")", x.aloft(0, seed), 2);
        }
        Check.refused(x, "aloft(4, -1)", x.aloft(4, -1), 1);
        Check.refused(x, "aloft(-1, 0)", x.aloft(-1, 0), 1);
        x.meet(0, 1);
        Check.granted(x, "aloft(0, 0), gone", x.aloft(0, 0), 4);
    }

    private static void moreThanNinety() {
        GrudgeLoft x = Check.town("loft wings 1 hawks 0 storm 0;house a at 0 coins 0;house b at 90 coins 0;"
                + "house c at 91 coins 0;bird p plain from a to b day 0 wrong 1;bird q plain from a to c day 0 wrong 1;"
                + "bird r plain from c to b day 30 wrong 1");
        Check.granted(x, "aloft by 90", x.aloft(0, 7), 90);
        Check.granted(x, "aloft by 91", x.aloft(1, 7), -2);
        Check.granted(x, "last of 0 and 90, 30 and 1", x.last(7), 0);
    }

    // Promise 48: days 0 + 4, 1 + 6, 0 + 5, 2 + 4
    private static void last() {
        GrudgeLoft x = Check.town(Check.TOWN);
        Check.granted(x, "last(0)", x.last(0), 1);
        for (int seed : new int[] {-1, 65537, Integer.MAX_VALUE, Integer.MIN_VALUE}) {
            Check.refused(x, "last(" + seed + ")", x.last(seed), 2);
        }
        Check.granted(x, "last(65536): none comes", x.last(65536), -2);
        x.meet(0, 1);
        Check.granted(x, "last(0), two gone: 0 + 4, 2 + 6", x.last(0), 3);
        // p, 90 DRAWS and not there, leaves the SEED by which q is 16 days aloft and r 18; another DRAW: 18 and 18
        GrudgeLoft far = Check.town("loft wings 1 hawks 0 storm 50;house a at 0 coins 0;house b at 99 coins 0;"
                + "house c at 90 coins 0;bird p plain from a to b day 30 wrong 1;"
                + "bird q plain from b to c day 0 wrong 1;bird r plain from b to c day 0 wrong 1");
        Check.due("last behind 90 DRAWS", far.last(8), 2);
        GrudgeLoft like = Check.town("loft wings 1 hawks 0 storm 0;house a at 0 coins 0;house b at 5 coins 0;"
                + "bird p plain from a to b day 0 wrong 1;bird q plain from a to b day 2 wrong 1;"
                + "bird r plain from b to a day 2 wrong 1");
        Check.due("last of like ones", like.last(3), 1);
    }

    private static void lastOfNone() {
        GrudgeLoft x = Check.town(Check.HOUSES.substring(0, Check.HOUSES.length() - 1));
        Check.granted(x, "last of no birds", x.last(0), -2);
    }
}
