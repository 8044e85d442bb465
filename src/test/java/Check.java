/** What the tests share: they feed texts, count wrong answers, and end with exit code 1 if there was one. */
final class Check {
    static final String LOFT = "loft wings 10 hawks 25 storm 40;";
    static final String HOUSES = LOFT
            + "house ash at 0 coins 20;house bay at 25 coins 50;house cot at 30 coins 5;";
    /** Sitting from days 3, 4, 3, 5 at bay, ash, ash, cot; NEEDS 12, 5, 8, 6. */
    static final String TOWN = HOUSES
            + "bird pip plain from ash to bay day 0 wrong 12;"
            + "bird pat honest from bay to ash day 1 wrong 9;"
            + "bird pug proud from cot to ash day 0 wrong 4;"
            + "bird poe blind from ash to bay day 2 wrong 6";
    /** What every call that needs a TOWN is tried without. */
    static final int NONE = GrudgeLoft.NONE;

    private static int wrong = 0;

    private Check() {
    }

    static void due(String call, long got, long want) {
        if (got != want) {
            wrong++;
            System.out.println(call + " answered " + got + ", due is " + want);
        }
    }

    static void due(String call, boolean got, boolean want) {
        due(call, got ? 1 : 0, want ? 1 : 0);
    }

    /** An answer that wasn't refused. */
    static void granted(GrudgeLoft x, String call, long got, long want) {
        due(call, got, want);
        due(call + ": trouble", x.trouble(), 0);
    }

    static void refused(GrudgeLoft x, String call, long got, int why) {
        due(call, got, NONE);
        due(call + ": trouble", x.trouble(), why);
    }

    /** Feeds a text, blanks behind it up to a twenty. */
    static void feed(GrudgeLoft x, String text) {
        StringBuilder full = new StringBuilder(text);
        while (full.length() % 20 != 0) {
            full.append(' ');
        }
        for (int i = 0; i < full.length(); i += 20) {
            x.feed(four(full, i), four(full, i + 4), four(full, i + 8), four(full, i + 12), four(full, i + 16));
        }
    }

    private static int four(CharSequence text, int at) {
        int number = 0;
        for (int i = at; i < at + 4; i++) {
            number = number << 8 | text.charAt(i) & 255;
        }
        return number;
    }

    static int loft(GrudgeLoft x, String text) {
        feed(x, text);
        return x.loft(text.length());
    }

    static GrudgeLoft town(String text) {
        GrudgeLoft x = new GrudgeLoft();
        if (loft(x, text) < 0) {
            due("loft of " + text + ": fault", x.fault(), 0);
        }
        return x;
    }

    static void days(GrudgeLoft x, int many) {
        for (int i = 0; i < many; i++) {
            x.day();
        }
    }

    static boolean ledThrows(GrudgeLoft x, int i) {
        try {
            x.led(i);
            return false;
        } catch (java.util.NoSuchElementException none) {
            return true;
        }
    }

    static void end(String name) {
        System.out.println(name + ": " + (wrong == 0 ? "all answers are as due" : wrong + " wrong"));
        if (wrong != 0) {
            System.exit(1);
        }
    }
}
