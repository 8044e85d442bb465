/** What the tests share: they feed texts, count wrong answers, and end with exit code 1 if there was one. */
final class Check {
    static final String LOFT = "loft wings 10 hawks 25 storm 40;";
    static final String HOUSES = LOFT
            + "house ash at 0 coins 20;house bay at 25 coins 50;house cot at 30 coins 5;";
    /** Sitting from days 3, 4, 3, 5 at bay, ash, ash, cot; NEEDS 12, 5, 8, 6. */
    static final String TOWN = HOUSES
            + "bird pip plain from ash to bay day 0 wrong 12;"
            + "bird pat honest from bay to ash day 1 wrong 9;"
            + "bird pug proud from cot to ash day 0 wrong 4;"
            + "bird poe blind from ash to bay day 2 wrong 6";
    /** Houses without birds. */
    static final String NO_BIRDS = "loft wings 1 hawks 0 storm 0;house a at 0 coins 9;house b at 99 coins 9;"
            + "house c at 60 coins 9";
    /** As many of each LINE as there may be; g to m SIT from days 1 to 7 on b, b, b, a, f, c, b. */
    static final String FULL = "loft wings 5 hawks 10 storm 30;house a at 0 coins 60;house b at 5 coins 70;"
            + "house c at 10 coins 80;house d at 15 coins 90;house e at 20 coins 100;house f at 25 coins 300;"
            + "bird g plain from a to b day 0 wrong 7;bird h plain from a to b day 1 wrong 6;"
            + "bird i plain from a to b day 2 wrong 5;bird j plain from b to a day 3 wrong 4;"
            + "bird k plain from e to f day 4 wrong 3;bird l plain from d to c day 5 wrong 2;"
            + "bird m plain from c to b day 6 wrong 1;"
            + "stray n from a day 0;stray o from b day 0;stray p from f day 0;"
            + "seen a day 0 birds 0;seen b day 0 birds 0;seen c day 0 birds 0;seen d day 0 birds 0;"
            + "seen f day 5 birds 1";
    static final int NONE = GrudgeLoft.NONE;

    private static int wrong = 0;

    /** A call that answers a number. */
    interface Call {
        long answer();
    }

    /** A call that answers true or false. */
    interface Wish {
        boolean answer();
    }

    private Check() {
    }

    static void due(String call, long got, long want) {
        if (got != want) {
            wrong++;
            System.out.println(call + " answered " + got + ", due is " + want);
        }
    }

    static void due(String call, boolean got, boolean want) {
        due(call, got ? 1 : 0, want ? 1 : 0);
    }

    /** An answer that isn't refused, by a call behind one that was. */
    static void granted(GrudgeLoft x, String call, Call made, long want) {
        x.back(NONE);
        due(call, made.answer(), want);
        due(call + ": trouble", x.trouble(), 0);
    }

    static void granted(GrudgeLoft x, String call, Wish made) {
        granted(x, call, () -> made.answer() ? 1 : 0, 1);
    }

    /** A refusal, by a call behind one that was refused for another cause. */
    static void refused(GrudgeLoft x, String call, Call made, int why) {
        spoil(x, why);
        due(call, made.answer(), NONE);
        due(call + ": trouble", x.trouble(), why);
    }

    static void refused(GrudgeLoft x, String call, Wish made, int why) {
        spoil(x, why);
        due(call, made.answer(), false);
        due(call + ": trouble", x.trouble(), why);
    }

    private static void spoil(GrudgeLoft x, int why) {
        if (why == 1) {
            x.loft(NONE);
        } else {
            x.back(NONE);
        }
    }

    /** A refusal that leaves all that can be told of a TOWN as it was. */
    static void refusedAndStays(GrudgeLoft x, String call, Call made, int why) {
        String ahead = told(x);
        refused(x, call, made, why);
        due(call + ": all stays", told(x).equals(ahead), true);
    }

    /** All that is told of a TOWN, its ACTS and IMAGES. */
    static String told(GrudgeLoft x) {
        StringBuilder all = new StringBuilder();
        for (int what = 0; what <= 10; what++) {
            all.append(x.size(what)).append(' ');
        }
        for (int h = 0; h < x.size(3); h++) {
            for (int what = 0; what <= 4; what++) {
                all.append(x.house(h, what)).append(' ');
            }
        }
        for (int b = 0; b < x.size(4); b++) {
            for (int what = 0; what <= 7; what++) {
                all.append(x.bird(b, what)).append(' ');
            }
        }
        return all.append(x.fits()).append(' ').append(x.look()).append(' ').append(x.judge()).toString();
    }

    /** Feeds a text, blanks behind it up to a twenty. */
    static void feed(GrudgeLoft x, String text) {
        StringBuilder full = new StringBuilder(text);
        while (full.length() % 20 != 0) {
            full.append(' ');
        }
        for (int i = 0; i < full.length(); i += 20) {
            x.feed(four(full, i), four(full, i + 4), four(full, i + 8), four(full, i + 12), four(full, i + 16));
        }
    }

    private static int four(CharSequence text, int at) {
        int number = 0;
        for (int i = at; i < at + 4; i++) {
            number = number << 8 | text.charAt(i) & 255;
        }
        return number;
    }

    static int loft(GrudgeLoft x, String text) {
        feed(x, text);
        return x.loft(text.length());
    }

    static GrudgeLoft town(String text) {
        GrudgeLoft x = new GrudgeLoft();
        if (loft(x, text) < 0) {
            due("loft of " + text + ": fault", x.fault(), 0);
        }
        return x;
    }

    static void days(GrudgeLoft x, int many) {
        for (int i = 0; i < many; i++) {
            x.day();
        }
    }

    static boolean ledThrows(GrudgeLoft x, int i) {
        try {
            x.led(i);
            return false;
        } catch (java.util.NoSuchElementException none) {
            return true;
        }
    }

    /** A text that becomes a TOWN of so many houses. */
    static void sound(String text, int houses) {
        GrudgeLoft x = new GrudgeLoft();
        feed(x, text);
        granted(x, "loft of '" + text + "'", () -> x.loft(text.length()), houses);
        due("fault of '" + text + "'", x.fault(), 0);
        due("where of '" + text + "'", x.where(), NONE);
    }

    /** A text with a FAULT; a ^ stands ahead of its place. */
    static void faulty(int number, String marked) {
        int place = marked.indexOf('^');
        String text = marked.substring(0, place) + marked.substring(place + 1);
        GrudgeLoft x = new GrudgeLoft();
        feed(x, text);
        refused(x, "loft of '" + marked + "'", () -> x.loft(text.length()), 4);
        due("fault of '" + marked + "'", x.fault(), number);
        due("where of '" + marked + "'", x.where(), place);
        due("no town by '" + marked + "'", x.size(3), 0);
    }

    static void end(String name) {
        System.out.println(name + ": " + (wrong == 0 ? "all answers are as due" : wrong + " wrong"));
        if (wrong != 0) {
            System.exit(1);
        }
    }
}
