/** Promises 41 to 43: two houses SEND or let be. */
public final class TwoHousesTest {
    private static final int[] BAD_WORTHS = {-1, 10, Integer.MAX_VALUE, Integer.MIN_VALUE};

    public static void main(String[] args) {
        withoutTown();
        GrudgeLoft x = Check.town(Check.TOWN);
        for (int worth = 0; worth <= 9; worth++) {
            sends(x, worth);
            rests(x, worth);
        }
        for (int worth : BAD_WORTHS) {
            Check.refused(x, "sends(" + worth + ")", x.sends(worth, true, false, true), 2);
            Check.refused(x, "rests(" + worth + ")", x.rests(worth), 2);
            Check.refused(x, "rest(" + worth + ")", x.rest(worth), 2);
        }
        Check.end("TwoHousesTest");
    }

    private static void withoutTown() {
        GrudgeLoft x = new GrudgeLoft();
        Check.refused(x, "sends(10), no town", x.sends(10, true, false, true), 1);
        Check.refused(x, "rests(10), no town", x.rests(10), 1);
        Check.refused(x, "rest(10), no town", x.rest(10), 1);
    }

    private static void sends(GrudgeLoft x, int worth) {
        String call = "worth " + worth + ": sends ";
        Check.granted(x, call + "both let be", x.sends(worth, false, false, false), 3);
        Check.granted(x, call + "both let be, other", x.sends(worth, false, false, true), 3);
        Check.granted(x, call + "both", x.sends(worth, true, true, false), 1);
        Check.granted(x, call + "both, other", x.sends(worth, true, true, true), 1);
        Check.granted(x, call + "the one", x.sends(worth, true, false, false), worth);
        Check.granted(x, call + "the one, other", x.sends(worth, true, false, true), 0);
        Check.granted(x, call + "the other", x.sends(worth, false, true, false), 0);
        Check.granted(x, call + "the other, other", x.sends(worth, false, true, true), worth);
    }

    // neither could have MORE alone: by 3 letting be still rests
    private static void rests(GrudgeLoft x, int worth) {
        Check.granted(x, "rests(" + worth + ")", x.rests(worth), worth <= 3 ? 2 : 1);
        Check.granted(x, "rest(" + worth + ")", x.rest(worth), worth <= 3 ? 0 : 11);
    }
}
