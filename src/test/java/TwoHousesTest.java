/** Terms III, TWO houses, and promises 41 to 43: they SEND or let be. */
public final class TwoHousesTest {
    private static final int[] BAD_WORTHS = {-1, 10, Integer.MAX_VALUE, Integer.MIN_VALUE};

    public static void main(String[] args) {
        bothLetBe();
        bothSend();
        oneSendsAlone();
        sendsOfOther();
        sendsRefused();
        restsByWhatEachHas();
        rests();
        restsRefused();
        rest();
        restOrder();
        restNever();
        restRefused();
        Check.end("TwoHousesTest");
    }

    private static GrudgeLoft town() {
        return Check.town(Check.TOWN);
    }

    // Terms III, "3 each if both let be": whatever it is worth
    private static void bothLetBe() {
        GrudgeLoft x = town();
        for (int worth = 0; worth <= 9; worth++) {
            int w = worth;
            Check.granted(x, "worth " + w + ": the one", () -> x.sends(w, false, false, false), 3);
            Check.granted(x, "worth " + w + ": the other one", () -> x.sends(w, false, false, true), 3);
        }
    }

    // Terms III, "1 each if both SEND;": whatever it is worth
    private static void bothSend() {
        GrudgeLoft x = town();
        for (int worth = 0; worth <= 9; worth++) {
            int w = worth;
            Check.granted(x, "worth " + w + ": the one", () -> x.sends(w, true, true, false), 1);
            Check.granted(x, "worth " + w + ": the other one", () -> x.sends(w, true, true, true), 1);
        }
    }

    // Terms III, "who SENDS alone has so much as it is worth, the other one 0.": 0 up to 9
    private static void oneSendsAlone() {
        GrudgeLoft x = town();
        for (int worth = 0; worth <= 9; worth++) {
            int w = worth;
            Check.granted(x, "worth " + w + ": the one alone", () -> x.sends(w, true, false, false), w);
            Check.granted(x, "worth " + w + ": the other one alone", () -> x.sends(w, false, true, true), w);
        }
    }

    // Promise 41, "What the one (or other, the other one) has": 0 of that which lets be alone
    private static void sendsOfOther() {
        GrudgeLoft x = town();
        for (int worth = 0; worth <= 9; worth++) {
            int w = worth;
            Check.granted(x, "worth " + w + ": the other one, by the one", () -> x.sends(w, true, false, true), 0);
            Check.granted(x, "worth " + w + ": the one, by the other one", () -> x.sends(w, false, true, false), 0);
        }
    }

    // Promise 41, "NONE: 1 (no TOWN); 2.": the TOWN first; worth too little, too much
    private static void sendsRefused() {
        GrudgeLoft none = new GrudgeLoft();
        Check.refused(none, "sends(0), no town", () -> none.sends(0, true, false, true), 1);
        Check.refused(none, "sends(10), no town", () -> none.sends(10, true, false, true), 1);
        GrudgeLoft x = town();
        for (int worth : BAD_WORTHS) {
            Check.refused(x, "sends(" + worth + ")", () -> x.sends(worth, true, false, false), 2);
            Check.refused(x, "sends(" + worth + ") of other", () -> x.sends(worth, false, false, true), 2);
        }
    }

    // Terms III, "REST: a pair by which neither could have more alone.": as much is no more
    private static void restsByWhatEachHas() {
        boolean[] either = {false, true};
        GrudgeLoft x = town();
        for (int worth = 0; worth <= 9; worth++) {
            int rests = 0;
            int first = -2;
            for (boolean one : either) {
                for (boolean other : either) {
                    boolean more = x.sends(worth, !one, other, false) > x.sends(worth, one, other, false)
                            || x.sends(worth, one, !other, true) > x.sends(worth, one, other, true);
                    rests += more ? 0 : 1;
                    first = more || first >= 0 ? first : (one ? 10 : 0) + (other ? 1 : 0);
                }
            }
            Check.due("rests(" + worth + ")", x.rests(worth), rests);
            Check.due("rest(" + worth + ")", x.rest(worth), first);
        }
    }

    // Promise 42, "How many RESTS.": up to worth 3 neither could have MORE alone if both let be, from 4 on either could
    private static void rests() {
        GrudgeLoft x = town();
        int[] due = {2, 2, 2, 2, 1, 1, 1, 1, 1, 1};
        for (int worth = 0; worth < due.length; worth++) {
            int w = worth;
            Check.granted(x, "rests(" + w + ")", () -> x.rests(w), due[w]);
        }
    }

    // Promise 42, "NONE: 1 (no TOWN); 2.": the TOWN first; worth too little, too much
    private static void restsRefused() {
        GrudgeLoft none = new GrudgeLoft();
        Check.refused(none, "rests(0), no town", () -> none.rests(0), 1);
        Check.refused(none, "rests(10), no town", () -> none.rests(10), 1);
        GrudgeLoft x = town();
        for (int worth : BAD_WORTHS) {
            Check.refused(x, "rests(" + worth + ")", () -> x.rests(worth), 2);
        }
    }

    // Promise 43, "10 if the one SENDS, and 1 if the other one does;": there being but that by which both SEND
    private static void rest() {
        GrudgeLoft x = town();
        for (int worth = 4; worth <= 9; worth++) {
            int w = worth;
            Check.granted(x, "rest(" + w + ")", () -> x.rest(w), 11);
        }
    }

    // Promise 43, "The first (letting be ahead, the one's first)": of two that by which both let be
    private static void restOrder() {
        GrudgeLoft x = town();
        for (int worth = 0; worth <= 3; worth++) {
            int w = worth;
            Check.granted(x, "rest(" + w + ")", () -> x.rest(w), 0);
        }
    }

    // Promise 43, "-2.": of no worth, for by both that SEND there's always one
    private static void restNever() {
        GrudgeLoft x = town();
        for (int worth = 0; worth <= 9; worth++) {
            Check.due("rest(" + worth + ") is there", x.rest(worth) >= 0, true);
            Check.due("rests(" + worth + ") are there", x.rests(worth) >= 1, true);
        }
    }

    // Promise 43, "NONE: likewise.": the TOWN first; worth too little, too much
    private static void restRefused() {
        GrudgeLoft none = new GrudgeLoft();
        Check.refused(none, "rest(0), no town", () -> none.rest(0), 1);
        Check.refused(none, "rest(10), no town", () -> none.rest(10), 1);
        GrudgeLoft x = town();
        for (int worth : BAD_WORTHS) {
            Check.refused(x, "rest(" + worth + ")", () -> x.rest(worth), 2);
        }
    }
}
