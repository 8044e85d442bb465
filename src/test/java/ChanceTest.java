/** Terms III, HAWKS and STORMS, and promises 44 to 48: hawks by chance, storms by draws. */
public final class ChanceTest {
    private static final int[] NO_BIRDS = {-1, 4, 7, Integer.MAX_VALUE, Integer.MIN_VALUE};
    private static final int[] BAD_DAYS = {-1, 9, Integer.MAX_VALUE, Integer.MIN_VALUE};
    private static final int[] BAD_SEEDS = {-1, 65_537, Integer.MAX_VALUE, Integer.MIN_VALUE};
    /** FLIGHTS of 90 and 91 days, no storm. */
    private static final String NINETY = "loft wings 1 hawks 0 storm 0;house a at 0 coins 0;house b at 90 coins 0;"
            + "house c at 91 coins 0;bird p plain from a to b day 0 wrong 1;bird q plain from a to c day 0 wrong 1";

    public static void main(String[] args) {
        asLikelyAsTold();
        safe();
        safeOfNoDays();
        safeLowestTerms();
        safeNoneByOne();
        safeRefusedFirst();
        safeNotSitting();
        left();
        leftOfMoreThanSit();
        leftOfSeven();
        leftByExtremes();
        leftRefused();
        stays();
        staysOfNoDays();
        staysByExtremes();
        staysRefused();
        aloftByDraws();
        aloftOnTheEdgeOfStorm();
        aloftByExtremes();
        aloftSeedWrapsAround();
        aloftMoreThanNinety();
        aloftOfAnyBird();
        aloftRefused();
        last();
        lastSeedGoesOn();
        lastFirstOfLikeOnes();
        lastMoreThanNinety();
        lastNone();
        lastRefused();
        fullTown();
        Check.end("ChanceTest");
    }

    /** As many birds as may be, SITTING on b at once. */
    private static GrudgeLoft sevenSitting(int hawks) {
        StringBuilder text = new StringBuilder("loft wings 1 hawks ").append(hawks).append(" storm 0;"
                + "house a at 0 coins 0;house b at 0 coins 0");
        for (char name = 'p'; name <= 'v'; name++) {
            text.append(";bird ").append(name).append(" plain from a to b day 0 wrong 1");
        }
        return Check.town(text.toString());
    }

    private static GrudgeLoft townOfDay(int day) {
        GrudgeLoft x = Check.town(Check.TOWN);
        Check.days(x, day);
        return x;
    }

    private static void safely(GrudgeLoft x, int n, long upper, long lower) {
        Check.granted(x, "safe(0, " + n + ") upper", () -> x.safe(0, n, false), upper);
        Check.granted(x, "safe(0, " + n + ") lower", () -> x.safe(0, n, true), lower);
    }

    private static void leaving(GrudgeLoft x, int h, int many, long upper, long lower) {
        Check.granted(x, "left(" + h + ", " + many + ") upper", () -> x.left(h, many, false), upper);
        Check.granted(x, "left(" + h + ", " + many + ") lower", () -> x.left(h, many, true), lower);
    }

    private static void staying(GrudgeLoft x, int n, long upper, long lower) {
        Check.granted(x, "stays(" + n + ") upper", () -> x.stays(n, false), upper);
        Check.granted(x, "stays(" + n + ") lower", () -> x.stays(n, true), lower);
    }

    // Terms III, "HAWKS: a bird that SITS NOW is taken on each day from NOW on by what was told, as likely as told.":
    // the least, the most, and some between; NOW is no day behind which it may be taken
    private static void asLikelyAsTold() {
        long[][] due = {{0, 1, 1}, {1, 99, 100}, {2, 49, 50}, {50, 1, 2}, {75, 1, 4}, {99, 1, 100}, {100, 0, 1}};
        for (long[] row : due) {
            GrudgeLoft x = sevenSitting((int) row[0]);
            safely(x, 0, 1, 1);
            safely(x, 1, row[1], row[2]);
            x.day();
            safely(x, 1, row[1], row[2]);
            staying(x, 1, row[1], row[2]);
        }
    }

    // Promise 44, "How likely a bird that SITS NOW isn't taken in n days (0 .. 8)": by hawks 25 three of four each day
    private static void safe() {
        GrudgeLoft x = townOfDay(3);
        safely(x, 1, 3, 4);
        safely(x, 2, 9, 16);
        safely(x, 8, 6561, 65_536);
        safely(sevenSitting(1), 8, 9_227_446_944_279_201L, 10_000_000_000_000_000L);
    }

    // Promise 44, "in n days (0 .. 8)": in none it surely isn't
    private static void safeOfNoDays() {
        safely(townOfDay(3), 0, 1, 1);
        safely(sevenSitting(100), 0, 1, 1);
    }

    // Promise 44, "the upper WHOLE or the lower, in lowest terms": by any hawks
    private static void safeLowestTerms() {
        safely(sevenSitting(50), 3, 1, 8);
        safely(sevenSitting(98), 2, 1, 2500);
        safely(sevenSitting(96), 1, 1, 25);
        safely(sevenSitting(99), 1, 1, 100);
        safely(sevenSitting(0), 8, 1, 1);
    }

    // Promise 44, "(0 by 1).": by hawks 100, in a day, in 8
    private static void safeNoneByOne() {
        GrudgeLoft x = sevenSitting(100);
        safely(x, 1, 0, 1);
        safely(x, 8, 0, 1);
    }

    // Promise 44, "-1: 1; 2;": no TOWN, no such bird; too few days, too many; the bird is looked at first
    private static void safeRefusedFirst() {
        GrudgeLoft none = new GrudgeLoft();
        Check.refused(none, "safe(0, 9), no town", () -> none.safe(0, 9, true), 1);
        GrudgeLoft x = townOfDay(3);
        for (int b : NO_BIRDS) {
            Check.refused(x, "safe(" + b + ", 0)", () -> x.safe(b, 0, true), 1);
        }
        Check.refused(x, "safe(4, 9)", () -> x.safe(4, 9, false), 1);
        for (int n : BAD_DAYS) {
            Check.refused(x, "safe(0, " + n + ")", () -> x.safe(0, n, false), 2);
        }
        Check.refused(x, "safe(3, 9) of one in FLIGHT", () -> x.safe(3, 9, false), 2);
    }

    // Promise 44, "5 (it doesn't SIT NOW).": in the loft, in FLIGHT the day ahead, gone
    private static void safeNotSitting() {
        GrudgeLoft x = townOfDay(0);
        Check.refused(x, "safe in the loft", () -> x.safe(1, 0, true), 5);
        Check.days(x, 2);
        Check.refused(x, "safe in FLIGHT", () -> x.safe(0, 1, true), 5);
        x.day();
        Check.granted(x, "safe(0, 0)", () -> x.safe(0, 0, true), 1);
        x.meet(0, 1);
        Check.refused(x, "safe of one gone", () -> x.safe(0, 1, false), 5);
    }

    // Promise 45, "How likely so many (0 .. 7) of those that SIT on a house NOW aren't taken in a day": none, some, all
    private static void left() {
        GrudgeLoft x = townOfDay(4);
        leaving(x, 0, 0, 1, 16);
        leaving(x, 0, 1, 3, 8);
        leaving(x, 0, 2, 9, 16);
        leaving(x, 1, 0, 1, 4);
        leaving(x, 1, 1, 3, 4);
        x.pay(2, 8);
        leaving(x, 0, 1, 3, 4);
    }

    // Promise 45, "so many (0 .. 7) of those that SIT on a house NOW": more than SIT there can't be, none of none
    // surely
    private static void leftOfMoreThanSit() {
        GrudgeLoft x = townOfDay(4);
        leaving(x, 0, 3, 0, 1);
        leaving(x, 0, 7, 0, 1);
        leaving(x, 1, 2, 0, 1);
        leaving(x, 2, 0, 1, 1);
        leaving(x, 2, 1, 0, 1);
    }

    // Promise 45, "so many (0 .. 7)": of all seven
    private static void leftOfSeven() {
        GrudgeLoft x = sevenSitting(50);
        int[] ways = {1, 7, 21, 35, 35, 21, 7, 1};
        for (int many = 0; many <= 7; many++) {
            leaving(x, 1, many, ways[many], 128);
        }
        GrudgeLoft y = sevenSitting(1);
        leaving(y, 1, 6, 6_590_361_045_807L, 100_000_000_000_000L);
        leaving(y, 1, 7, 93_206_534_790_699L, 100_000_000_000_000L);
        leaving(y, 1, 0, 1, 100_000_000_000_000L);
        leaving(y, 0, 0, 1, 1);
    }

    // Promise 45, "likewise.": in lowest terms, 0 by 1, by hawks 0 and 100
    private static void leftByExtremes() {
        GrudgeLoft all = sevenSitting(100);
        leaving(all, 1, 0, 1, 1);
        leaving(all, 1, 1, 0, 1);
        leaving(all, 1, 7, 0, 1);
        GrudgeLoft none = sevenSitting(0);
        leaving(none, 1, 7, 1, 1);
        leaving(none, 1, 6, 0, 1);
        leaving(none, 1, 0, 0, 1);
    }

    // Promise 45, "-1: 1; 2.": no TOWN, no such house; too few, too many; the house is looked at first
    private static void leftRefused() {
        GrudgeLoft none = new GrudgeLoft();
        Check.refused(none, "left(0, 8), no town", () -> none.left(0, 8, true), 1);
        GrudgeLoft x = townOfDay(4);
        for (int h : new int[] {-1, 3, 6, Integer.MAX_VALUE, Integer.MIN_VALUE}) {
            Check.refused(x, "left(" + h + ", 0)", () -> x.left(h, 0, true), 1);
        }
        Check.refused(x, "left(3, 8)", () -> x.left(3, 8, false), 1);
        for (int many : new int[] {-1, 8, Integer.MAX_VALUE, Integer.MIN_VALUE}) {
            Check.refused(x, "left(0, " + many + ")", () -> x.left(0, many, false), 2);
        }
    }

    // Promise 46, "The mean of days (of n, 0 .. 8) behind which a bird isn't taken yet": 3/4, 3/4 + 9/16, .. by hawks
    // 25
    private static void stays() {
        GrudgeLoft x = Check.town(Check.TOWN);
        staying(x, 1, 3, 4);
        staying(x, 2, 21, 16);
        staying(x, 3, 111, 64);
        staying(x, 8, 3 * (65_536 - 6561), 65_536);
    }

    // Promise 46, "(of n, 0 .. 8)": of none 0 by 1
    private static void staysOfNoDays() {
        staying(Check.town(Check.TOWN), 0, 0, 1);
        staying(Check.town(Check.NO_BIRDS), 0, 0, 1);
    }

    // Promise 46, "likewise.": by hawks 0 all of them, by 100 none, by 1 in lowest terms
    private static void staysByExtremes() {
        staying(sevenSitting(0), 8, 8, 1);
        staying(sevenSitting(0), 1, 1, 1);
        staying(sevenSitting(100), 8, 0, 1);
        staying(sevenSitting(100), 1, 0, 1);
        staying(sevenSitting(1), 8, 76_482_752_516_359_101L, 10_000_000_000_000_000L);
        staying(sevenSitting(50), 2, 3, 4);
    }

    // Promise 46, "-1: 1 (no TOWN); 2.": the TOWN first; too few days, too many
    private static void staysRefused() {
        GrudgeLoft none = new GrudgeLoft();
        Check.refused(none, "stays(0), no town", () -> none.stays(0, true), 1);
        Check.refused(none, "stays(9), no town", () -> none.stays(9, false), 1);
        GrudgeLoft x = Check.town(Check.TOWN);
        for (int n : BAD_DAYS) {
            Check.refused(x, "stays(" + n + ")", () -> x.stays(n, false), 2);
        }
    }

    // Promise 47, "STORMS by a SEED (0 .. 65,536) for a bird: how many days it is aloft;": from 0 DRAWS 74, 5624,
    // 28652, ..
    private static void aloftByDraws() {
        GrudgeLoft x = Check.town(Check.TOWN);
        Check.granted(x, "aloft(0, 0)", () -> x.aloft(0, 0), 4);
        Check.granted(x, "aloft(1, 51790)", () -> x.aloft(1, 51_790), 6);
        Check.granted(x, "aloft(2, 4950)", () -> x.aloft(2, 4950), 5);
        Check.granted(x, "aloft(0, 0) once more", () -> x.aloft(0, 0), 4);
    }

    // Terms III, "below storm it comes no nearer": by a DRAW of just storm it does. From 50,257 the first is 33,740
    private static void aloftOnTheEdgeOfStorm() {
        String text = "loft wings 1 hawks 0 storm 40;house a at 0 coins 0;house b at 1 coins 0;"
                + "bird p plain from a to b day 0 wrong 1";
        GrudgeLoft x = Check.town(text);
        Check.granted(x, "aloft, storm 40, a DRAW of 40", () -> x.aloft(0, 50_257), 1);
        GrudgeLoft y = Check.town(text.replace("storm 40", "storm 41"));
        Check.granted(y, "aloft, storm 41, a DRAW of 40, then 68", () -> y.aloft(0, 50_257), 2);
    }

    // Terms III, "a DRAW mod 100 each day it is aloft": by storm 0 its FLIGHT, by 100 more than 90; 0 without FLIGHT
    private static void aloftByExtremes() {
        GrudgeLoft x = Check.town(Check.TOWN.replace("storm 40", "storm 0"));
        Check.granted(x, "aloft by storm 0", () -> x.aloft(0, 65_536), 3);
        GrudgeLoft y = Check.town(Check.TOWN.replace("storm 40", "storm 100"));
        Check.granted(y, "aloft by storm 100", () -> y.aloft(0, 1), -2);
        GrudgeLoft z = sevenSitting(0);
        Check.granted(z, "aloft without FLIGHT", () -> z.aloft(0, 0), 0);
    }

    // Terms III, "(SEED becomes (75 times SEED and 74) mod 65,537)": 65,536 becomes itself
    private static void aloftSeedWrapsAround() {
        GrudgeLoft x = Check.town(Check.TOWN);
        Check.granted(x, "aloft(0, 65536): 36 ever again", () -> x.aloft(0, 65_536), -2);
        GrudgeLoft y = Check.town(Check.TOWN.replace("storm 40", "storm 36"));
        Check.granted(y, "aloft(0, 65536), storm 36", () -> y.aloft(0, 65_536), 3);
        for (int seed : new int[] {0, 1, 873, 874, 875, 32_768, 65_535, 65_536}) {
            Check.granted(x, "aloft(3, " + seed + ")", () -> x.aloft(3, seed), daysBySteps(3, 40, seed));
        }
    }

    private static int daysBySteps(int flight, int storm, int first) {
        long seed = first;
        int near = 0;
        for (int days = 1; days <= 90; days++) {
            long product = seed + 1;
            seed = 0;
            for (int i = 0; i < 75; i++) {
                seed = (seed + product) % 65_537;
            }
            seed = (seed + 65_536) % 65_537;
            near += seed % 100 < storm ? 0 : 1;
            if (near == flight) {
                return days;
            }
        }
        return -2;
    }

    // Promise 47, "-2 more than 90.": 90 aren't
    private static void aloftMoreThanNinety() {
        GrudgeLoft x = Check.town(NINETY);
        Check.granted(x, "aloft by 90", () -> x.aloft(0, 7), 90);
        Check.granted(x, "aloft by 91", () -> x.aloft(1, 7), -2);
    }

    // Promise 47, "for a bird: how many days it is aloft;": wherever it is, gone ones too
    private static void aloftOfAnyBird() {
        GrudgeLoft x = Check.town(Check.TOWN);
        x.meet(0, 1);
        Check.granted(x, "aloft(0, 0), gone", () -> x.aloft(0, 0), 4);
        Check.days(x, 9);
        Check.granted(x, "aloft(2, 4950), it SITS", () -> x.aloft(2, 4950), 5);
    }

    // Promise 47, "NONE: 1; 2.": no TOWN, no such bird; SEEDS too small, too large; the bird is looked at first
    private static void aloftRefused() {
        GrudgeLoft none = new GrudgeLoft();
        Check.refused(none, "aloft(0, -1), no town", () -> none.aloft(0, -1), 1);
        GrudgeLoft x = Check.town(Check.TOWN);
        for (int b : NO_BIRDS) {
            Check.refused(x, "aloft(" + b + ", 0)", () -> x.aloft(b, 0), 1);
        }
        Check.refused(x, "aloft(4, -1)", () -> x.aloft(4, -1), 1);
        for (int seed : BAD_SEEDS) {
            Check.refused(x, "aloft(0, " + seed + ")", () -> x.aloft(0, seed), 2);
        }
    }

    // Promise 48, "The bird that comes last by STORMS (its day told, and days aloft;": days 0 + 4, 1 + 6, 0 + 5, 2 + 4
    private static void last() {
        GrudgeLoft x = Check.town(Check.TOWN);
        Check.granted(x, "last(0)", () -> x.last(0), 1);
        Check.days(x, 9);
        Check.granted(x, "last(0), day 9", () -> x.last(0), 1);
        GrudgeLoft y = Check.town(Check.HOUSES.replace("storm 40", "storm 0")
                + "bird p plain from ash to bay day 5 wrong 1;bird q plain from cot to bay day 6 wrong 1");
        Check.granted(y, "last by days 5 + 3, 6 + 1", () -> y.last(0), 0);
    }

    // Promise 48, "birds not gone, by numbers, SEED going on)": those gone draw nothing
    private static void lastSeedGoesOn() {
        GrudgeLoft x = Check.town(Check.TOWN);
        x.meet(0, 1);
        Check.granted(x, "last(0), two gone: 0 + 4, 2 + 6", () -> x.last(0), 3);
        // p, 90 DRAWS and not there, leaves the SEED by which q is 16 days aloft and r 18; another DRAW: 18 and 18
        GrudgeLoft far = Check.town("loft wings 1 hawks 0 storm 50;house a at 0 coins 0;house b at 99 coins 0;"
                + "house c at 90 coins 0;bird p plain from a to b day 30 wrong 1;"
                + "bird q plain from b to c day 0 wrong 1;bird r plain from b to c day 0 wrong 1");
        Check.granted(far, "last behind 90 DRAWS", () -> far.last(8), 2);
    }

    // Promise 48, "of like ones the first;": two of three, and all on the first day
    private static void lastFirstOfLikeOnes() {
        GrudgeLoft x = Check.town("loft wings 1 hawks 0 storm 0;house a at 0 coins 0;house b at 5 coins 0;"
                + "bird p plain from a to b day 0 wrong 1;bird q plain from a to b day 2 wrong 1;"
                + "bird r plain from b to a day 2 wrong 1");
        Check.granted(x, "last of like ones", () -> x.last(3), 1);
        GrudgeLoft y = sevenSitting(0);
        Check.granted(y, "last of those that are there on day 0", () -> y.last(3), 0);
    }

    // Promise 48, "(of those more than 90 aloft none does)": whoever comes comes behind them
    private static void lastMoreThanNinety() {
        GrudgeLoft x = Check.town(NINETY + ";bird r plain from c to b day 30 wrong 1");
        Check.granted(x, "last of 0 and 90, never, 30 and 1", () -> x.last(7), 0);
        GrudgeLoft y = Check.town("loft wings 1 hawks 0 storm 0;house a at 0 coins 0;house b at 91 coins 0;"
                + "house c at 1 coins 0;bird p plain from a to b day 30 wrong 1;"
                + "bird q plain from a to c day 0 wrong 1");
        Check.granted(y, "last of never, 0 and 1", () -> y.last(7), 1);
    }

    // Promise 48, "-2 no bird comes": none told, all gone, all more than 90 aloft
    private static void lastNone() {
        GrudgeLoft none = Check.town(Check.NO_BIRDS);
        Check.granted(none, "last of no birds", () -> none.last(0), -2);
        GrudgeLoft x = Check.town(Check.TOWN);
        Check.granted(x, "last(65536): all more than 90 aloft", () -> x.last(65_536), -2);
        GrudgeLoft y = Check.town(NINETY + ";bird r plain from b to a day 0 wrong 1;"
                + "bird s plain from c to a day 0 wrong 1");
        y.meet(0, 2);
        y.meet(1, 3);
        Check.granted(y, "last, all gone", () -> y.last(0), -2);
    }

    // Promise 48, "NONE: 1 (no TOWN); 2.": the TOWN first; SEEDS too small, too large
    private static void lastRefused() {
        GrudgeLoft none = new GrudgeLoft();
        Check.refused(none, "last(0), no town", () -> none.last(0), 1);
        Check.refused(none, "last(-1), no town", () -> none.last(-1), 1);
        GrudgeLoft x = Check.town(Check.TOWN);
        for (int seed : BAD_SEEDS) {
            Check.refused(x, "last(" + seed + ")", () -> x.last(seed), 2);
        }
    }

    // Terms I, "up to 7)": of six houses and seven birds, and of two and one behind them, all is told as of others
    private static void fullTown() {
        GrudgeLoft x = Check.town(Check.FULL.replace("storm 30", "storm 0"));
        Check.due("last(0)", x.last(0), 6);
        Check.days(x, 7);
        leaving(x, 1, 4, 6561, 10_000);
        leaving(x, 5, 1, 9, 10);
        Check.due("safe(6, 1, false)", x.safe(6, 1, false), 9);
        Check.due("aloft(6, 9)", x.aloft(6, 9), 1);
        Check.loft(x, "loft wings 1 hawks 0 storm 0;house a at 0 coins 0;house b at 9 coins 0;"
                + "bird p plain from a to b day 0 wrong 1");
        Check.due("last(0) of one", x.last(0), 0);
    }
}
