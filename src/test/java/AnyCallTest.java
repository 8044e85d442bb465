import java.lang.management.ManagementFactory;

/** Whatever is called, in whatever state: nothing is thrown but by led, and no call makes objects. */
public final class AnyCallTest {
    private static final int[] EDGES = {
        Integer.MIN_VALUE, Integer.MIN_VALUE + 1, -2, -1, 0, 1, 2, 3, 5, 6, 7, 8, 9, 10, 11, 12, 40, 60, 61, 90, 900,
        999, 1000, 65_536, 65_537, Integer.MAX_VALUE - 1, Integer.MAX_VALUE};
    private static final String[] PIECES = {
        "loft", "wings", "hawks", "storm", "house", "bird", "stray", "seen", "at", "coins", "from", "to", "day",
        "wrong", "birds", "plain", "honest", "proud", "blind", "ash", "bay", "cot", "pip", ";", ";", "0", "1", "7",
        "30", "31", "99", "100", "300", "1234", "abcdefghi", "A", "-", "\u00ff"};
    private static final String WHOLE = Check.TOWN + ";stray s from ash day 3;stray t from bay day 0;"
            + "stray u from cot day 2;seen ash day 9 birds 3;seen cot day 4 birds 1;house dot at 60 coins 9";
    private static final int CALLS = 52;
    private static long state = 7;

    public static void main(String[] args) {
        for (int i = 0; i < 400; i++) {
            anyCalls();
        }
        brokenTexts();
        noObjects();
        Check.end("AnyCallTest");
    }

    private static int chance(int below) {
        state = state * 6364136223846793005L + 1442695040888963407L;
        return (int) ((state >>> 33) % below);
    }

    private static int any() {
        return chance(3) == 0 ? EDGES[chance(EDGES.length)] : chance(8);
    }

    private static void anyCalls() {
        GrudgeLoft x = chance(8) == 0 ? new GrudgeLoft() : Check.town(WHOLE);
        for (int i = 0; i < 500; i++) {
            int which = chance(CALLS + 12);
            int a = any();
            int b = any();
            boolean one = chance(2) == 0;
            try {
                call(x, which, a, b, one);
            } catch (RuntimeException thrown) {
                Check.due("call " + which + "(" + a + ", " + b + ") threw " + thrown, 1, 0);
            }
        }
    }

    private static void call(GrudgeLoft x, int which, int a, int b, boolean one) {
        if (which < 26) {
            callOfTheFirst(x, which, a, b);
        } else {
            callOfTheLast(x, which, a, b, one);
        }
    }

    private static void callOfTheFirst(GrudgeLoft x, int which, int a, int b) {
        switch (which) {
            case 0: x.feed(a, b, a, b, a); break;
            case 1: x.loft(a); break;
            case 2: x.fault(); break;
            case 3: x.where(); break;
            case 4: x.house(a, b); break;
            case 5: x.bird(a, b); break;
            case 6: x.apart(a, b); break;
            case 7: x.birds(); break;
            case 8: x.fullest(); break;
            case 9: x.clean(); break;
            case 10: x.whereIn(a, b); break;
            case 11: x.sitIn(a, b); break;
            case 12: x.whiteIn(a, b); break;
            case 13: x.sitsIn(a); break;
            case 14: x.worstDay(); break;
            case 15: x.whitest(a); break;
            case 16: x.allSit(); break;
            case 17: x.mayMeet(a); break;
            case 18: x.meeting(a, b); break;
            case 19: x.owes(a); break;
            case 20: x.poor(); break;
            case 21: x.peace(); break;
            case 22: x.mate(a); break;
            case 23: x.peaces(); break;
            case 24: x.most(a); break;
            default: x.coinsFor(a); break;
        }
    }

    private static void callOfTheLast(GrudgeLoft x, int which, int a, int b, boolean one) {
        switch (which) {
            case 26: x.ring(a); break;
            case 27: x.ringAt(a, b); break;
            case 28: x.payable(a); break;
            case 29: x.bestMeeting(); break;
            case 30: x.feud(a, b); break;
            case 31: x.quiet(a); break;
            case 32: x.fits(); break;
            case 33: x.fitAt(a, b); break;
            case 34: x.could(a); break;
            case 35: x.surely(a); break;
            case 36: x.look(); break;
            case 37: x.lookLeaves(); break;
            case 38: x.judge(); break;
            case 39: x.sends(a, one, b > 0, !one); break;
            case 40: x.rests(a); break;
            case 41: x.rest(a); break;
            case 42: x.safe(a, b, one); break;
            case 43: x.left(a, b, one); break;
            case 44: x.stays(a, one); break;
            case 45: x.aloft(a, b); break;
            case 46: x.last(a); break;
            case 47: x.pay(a, b); break;
            case 48: x.meet(a, b); break;
            case 49: x.undo(); break;
            case 50: x.image(); break;
            case 51: x.back(a); break;
            case 52: x.size(a); break;
            case 53: x.trouble(); break;
            case 54: Check.ledThrows(x, a); break;
            default: x.day(); break;
        }
    }

    /** Pieces in any order, and a whole text with a piece put in, cut off, or a sign changed. */
    private static void brokenTexts() {
        for (int i = 0; i < 6000; i++) {
            StringBuilder text = new StringBuilder();
            if (chance(2) == 0) {
                text.append(Check.LOFT);
                for (int k = chance(30); k > 0; k--) {
                    text.append(PIECES[chance(PIECES.length)]).append(chance(9) == 0 ? "" : " ");
                }
            } else {
                text.append(WHOLE);
                int at = chance(text.length());
                switch (chance(3)) {
                    case 0: text.insert(at, PIECES[chance(PIECES.length)]); break;
                    case 1: text.setLength(at); break;
                    default: text.setCharAt(at, (char) chance(256)); break;
                }
            }
            GrudgeLoft x = new GrudgeLoft();
            int houses = Check.loft(x, text.toString());
            boolean sound = houses >= 2 && houses <= 6 && x.fault() == 0 && x.where() == -1 && x.size(3) == houses;
            boolean faulty = houses == -1 && x.fault() >= 1 && x.fault() <= 6 && x.where() >= 0
                    && x.where() <= text.length() && x.size(3) == 0;
            Check.due("loft of '" + text + "' told well", sound || faulty, true);
        }
    }

    private static void noObjects() {
        com.sun.management.ThreadMXBean bean =
                (com.sun.management.ThreadMXBean) ManagementFactory.getThreadMXBean();
        GrudgeLoft x = Check.town(WHOLE);
        long made = 0;
        for (int round = 0; round < 3; round++) {
            long ahead = bean.getCurrentThreadAllocatedBytes();
            for (int i = 0; i < 20_000; i++) {
                int which = chance(CALLS + 2);
                call(x, which, any(), any(), chance(2) == 0);
            }
            made = bean.getCurrentThreadAllocatedBytes() - ahead;
        }
        Check.due("20,000 calls make objects", made > 20_000, false);
    }
}
