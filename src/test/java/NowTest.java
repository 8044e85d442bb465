/** Terms II and promises 6 to 11: houses and birds NOW. */
public final class NowTest {
    /** p is let go on day 3, and 2 days on its way to b; it SITS from day 5 on. */
    private static final String LATE = "loft wings 5 hawks 0 storm 0;house a at 0 coins 9;house b at 10 coins 9;"
            + "bird p plain from a to b day 3 wrong 2";
    /** q SITS where it is let go at once: b is at the place of a. */
    private static final String AT_ONCE = "loft wings 5 hawks 0 storm 0;house a at 4 coins 9;house b at 4 coins 9;"
            + "bird q plain from a to b day 0 wrong 2";

    public static void main(String[] args) {
        birdIsForTheSecond();
        sillOfOthers();
        sillOfBlindOnes();
        sillOfLikeOnes();
        sillMayBeItsOwn();
        sillToldBehind();
        inTheLoft();
        inFlight();
        flightUpwards();
        flightOfNoDays();
        flightOfMostDays();
        sitsTillItIsGone();
        needs();
        lefts();
        leftOfThoseThatMet();
        firstDay();
        whiteNotByTheFirstDay();
        whiteByEachBirdAndDay();
        placeOfAHouse();
        coinsOfAHouse();
        whiteOfAHouse();
        sittersOfAHouse();
        birdsForAHouse();
        houseRefused();
        kindOfABird();
        toldOfABird();
        stateOfABird();
        birdRefused();
        apart();
        apartRefused();
        birds();
        birdsRefused();
        fullest();
        fullestOfLikeOnes();
        fullestRefused();
        clean();
        cleanRefused();
        fullTown();
        Check.end("NowTest");
    }

    // Terms II, "A bird is FOR the second house told.": not for the one it is from
    private static void birdIsForTheSecond() {
        GrudgeLoft x = Check.town(Check.TOWN);
        Check.granted(x, "bird(1, 1)", () -> x.bird(1, 1), 1);
        Check.granted(x, "bird(1, 2)", () -> x.bird(1, 2), 0);
    }

    // Terms II, "Its SILL is that of the house it is for;": of all KINDS but blind, be another house at that place
    private static void sillOfOthers() {
        GrudgeLoft x = Check.town("loft wings 3 hawks 0 storm 0;house a at 5 coins 0;house b at 5 coins 0;"
                + "house c at 5 coins 0;bird p plain from a to c day 0 wrong 1;bird q honest from c to a day 0 wrong 1;"
                + "bird r proud from a to b day 0 wrong 1");
        int[] due = {2, 0, 1};
        for (int b = 0; b < due.length; b++) {
            Check.due("SILL of " + b, x.bird(b, 3), due[b]);
            Check.due("sitting on it", x.house(due[b], 3), 1 << b);
        }
    }

    // Terms II, "of a blind one that of the house nearest to that one, besides it": of no other KIND
    private static void sillOfBlindOnes() {
        String houses = "loft wings 5 hawks 0 storm 0;house a at 0 coins 0;house b at 50 coins 0;"
                + "house c at 59 coins 0;house d at 42 coins 0;house e at 99 coins 0;";
        GrudgeLoft x = Check.town(houses + "bird p blind from a to b day 0 wrong 1;"
                + "bird q blind from a to e day 0 wrong 1;bird r blind from b to a day 0 wrong 1;"
                + "bird s plain from a to b day 0 wrong 1;bird t honest from a to b day 0 wrong 1;"
                + "bird u proud from a to b day 0 wrong 1");
        int[] due = {3, 2, 3, 1, 1, 1};
        for (int b = 0; b < due.length; b++) {
            Check.due("SILL of " + b, x.bird(b, 3), due[b]);
        }
        Check.due("FOR whom a blind one is", x.bird(0, 2), 1);
    }

    // Terms II, "(of like ones the first; its own, too)": of those as near, at one place or on both sides
    private static void sillOfLikeOnes() {
        GrudgeLoft x = Check.town("loft wings 3 hawks 0 storm 0;house a at 9 coins 0;house b at 5 coins 0;"
                + "house c at 1 coins 0;bird p blind from c to b day 0 wrong 1;house d at 9 coins 0");
        Check.due("SILL of like ones", x.bird(0, 3), 0);
        Check.due("FLIGHT to it", x.bird(0, 4), 3);
        GrudgeLoft y = Check.town("loft wings 3 hawks 0 storm 0;house a at 7 coins 0;house b at 7 coins 0;"
                + "house c at 7 coins 0;bird p blind from c to a day 0 wrong 1;bird q blind from a to c day 0 wrong 1");
        Check.due("SILL at one place", y.bird(0, 3), 1);
        Check.due("SILL at one place, FOR the last", y.bird(1, 3), 0);
    }

    // Terms II, "its own, too)": then it SITS on its day
    private static void sillMayBeItsOwn() {
        GrudgeLoft x = Check.town("loft wings 3 hawks 0 storm 0;house a at 1 coins 0;house b at 5 coins 0;"
                + "house c at 99 coins 0;bird r blind from a to b day 1 wrong 1");
        Check.due("SILL", x.bird(0, 3), 0);
        Check.due("FLIGHT", x.bird(0, 4), 0);
        Check.due("where ahead of its day", x.bird(0, 7), 0);
        x.day();
        Check.due("where on its day", x.bird(0, 7), 2);
        Check.due("on its own house", x.house(0, 3), 1);
        GrudgeLoft two = Check.town(AT_ONCE + ";bird r blind from b to a day 0 wrong 1");
        Check.due("SILL, but two houses", two.bird(1, 3), 1);
    }

    // Terms II, "of a blind one that of the house nearest to that one": though it is told behind the bird
    private static void sillToldBehind() {
        GrudgeLoft x = Check.town("loft wings 3 hawks 0 storm 0;house a at 1 coins 0;house b at 5 coins 0;"
                + "bird q blind from a to b day 0 wrong 1;house c at 6 coins 0");
        Check.due("SILL", x.bird(0, 3), 2);
        Check.due("FLIGHT", x.bird(0, 4), 2);
    }

    // Terms II, "It is in the loft till its day;": up to the day ahead of it
    private static void inTheLoft() {
        GrudgeLoft x = Check.town(LATE);
        for (int day = 0; day < 3; day++) {
            Check.due("where, day " + day, x.bird(0, 7), 0);
            x.day();
        }
        Check.due("where, day 3", x.bird(0, 7), 1);
    }

    // Terms II, "its FLIGHT takes as many days": from its day on, and not one more
    private static void inFlight() {
        GrudgeLoft x = Check.town(LATE);
        Check.days(x, 3);
        Check.due("where, day 3", x.bird(0, 7), 1);
        x.day();
        Check.due("where, day 4", x.bird(0, 7), 1);
        x.day();
        Check.due("where, day 5", x.bird(0, 7), 2);
    }

    // Terms II, "as its house's place is apart from its SILL's, by wings, upwards;": one less, just so, one more
    private static void flightUpwards() {
        int[][] due = {{1, 1}, {9, 1}, {10, 1}, {11, 2}, {19, 2}, {20, 2}, {21, 3}, {99, 10}};
        for (int[] row : due) {
            GrudgeLoft x = Check.town(Check.LOFT + "house a at 0 coins 0;house b at " + row[0] + " coins 0;"
                    + "bird p plain from a to b day 0 wrong 1;bird q plain from b to a day 0 wrong 1");
            Check.due("FLIGHT by " + row[0], x.bird(0, 4), row[1]);
            Check.due("FLIGHT back by " + row[0], x.bird(1, 4), row[1]);
        }
    }

    // Terms II, "behind these it SITS": behind none it SITS on its day, the first one too
    private static void flightOfNoDays() {
        GrudgeLoft x = Check.town(AT_ONCE + ";bird r plain from a to b day 1 wrong 1");
        Check.due("FLIGHT", x.bird(0, 4), 0);
        Check.due("where on the first day", x.bird(0, 7), 2);
        Check.due("where ahead of its day", x.bird(1, 7), 0);
        x.day();
        Check.due("where on its day", x.bird(1, 7), 2);
    }

    // Terms II, "by wings, upwards;": of the fewest wings and of the most
    private static void flightOfMostDays() {
        GrudgeLoft x = Check.town("loft wings 1 hawks 0 storm 0;house a at 0 coins 0;house b at 99 coins 0;"
                + "bird p plain from a to b day 0 wrong 1");
        Check.due("FLIGHT by 1", x.bird(0, 4), 99);
        GrudgeLoft y = Check.town("loft wings 50 hawks 0 storm 0;house a at 0 coins 0;house b at 99 coins 0;"
                + "house c at 50 coins 0;bird p plain from a to b day 0 wrong 1;"
                + "bird q plain from a to c day 0 wrong 1");
        Check.due("FLIGHT by 50", y.bird(0, 4), 2);
        Check.due("FLIGHT by 50 of 50", y.bird(1, 4), 1);
    }

    // Terms II, "behind these it SITS, till it is gone.": many days on it still does, gone it doesn't
    private static void sitsTillItIsGone() {
        GrudgeLoft x = Check.town(LATE);
        Check.days(x, 300);
        Check.due("where, day 300", x.bird(0, 7), 2);
        x.pay(0, 1);
        Check.due("where, 1 paid", x.bird(0, 7), 2);
        x.pay(0, 1);
        Check.due("where, all paid", x.bird(0, 7), 3);
        x.day();
        Check.due("where, a day on", x.bird(0, 7), 3);
    }

    // Terms II, "NEED: what wrong tells; of an honest one half of it, upwards; of a proud one twice.": of 1, 2, 59, 60
    private static void needs() {
        String[] kinds = {"plain", "honest", "proud", "blind"};
        int[][] due = {{1, 1, 2, 1}, {2, 1, 4, 2}, {59, 30, 118, 59}, {60, 30, 120, 60}};
        for (int[] row : due) {
            int told = row[0];
            for (int kind = 0; kind < kinds.length; kind++) {
                GrudgeLoft x = Check.town(Check.HOUSES + "bird x " + kinds[kind]
                        + " from ash to bay day 0 wrong " + told);
                Check.due("NEED of a " + kinds[kind] + " one, " + told, x.bird(0, 5), row[kind]);
                Check.due("LEFT of a " + kinds[kind] + " one, " + told, x.bird(0, 6), row[kind]);
            }
        }
    }

    // Terms II, "LEFT: NEED less what was paid for it.": down to 0, NEED stays
    private static void lefts() {
        GrudgeLoft x = Check.town(Check.TOWN);
        Check.days(x, 5);
        x.pay(0, 5);
        Check.due("LEFT, 5 paid", x.bird(0, 6), 7);
        Check.due("NEED, 5 paid", x.bird(0, 5), 12);
        x.pay(0, 7);
        Check.due("LEFT, all paid", x.bird(0, 6), 0);
        Check.due("NEED, all paid", x.bird(0, 5), 12);
        Check.due("LEFT of another one", x.bird(3, 6), 6);
    }

    // Terms II, "LEFT: NEED less what was paid for it.": a MEETING's coins aren't paid for a bird
    private static void leftOfThoseThatMet() {
        GrudgeLoft x = Check.town(Check.TOWN);
        x.meet(0, 1);
        Check.due("LEFT of that with more", x.bird(0, 6), 12);
        Check.due("LEFT of the other one", x.bird(1, 6), 5);
    }

    // Terms II, "The first day has 0.": and by it those SIT who need no day
    private static void firstDay() {
        GrudgeLoft x = Check.town(AT_ONCE);
        Check.due("the day", x.size(7), 0);
        Check.due("where on it", x.bird(0, 7), 2);
        x.day();
        Check.due("the day then", x.size(7), 1);
    }

    // Terms II, "on each day but the first.": who SITS on day 0 makes no house WHITE by that day
    private static void whiteNotByTheFirstDay() {
        GrudgeLoft x = Check.town(AT_ONCE);
        Check.due("sitting on day 0", x.house(1, 3), 1);
        Check.due("WHITE on day 0", x.house(1, 2), 0);
        x.day();
        Check.due("WHITE on day 1", x.house(1, 2), 1);
    }

    // Terms II, "A house is WHITE by one for each bird that SITS there on each day": from the day it comes, till it's
    // gone
    private static void whiteByEachBirdAndDay() {
        GrudgeLoft x = Check.town(LATE + ";bird q plain from a to b day 4 wrong 2");
        int[] due = {0, 0, 0, 0, 0, 1, 3, 5};
        for (int day = 0; day < due.length; day++) {
            Check.due("WHITE on day " + day, x.house(1, 2), due[day]);
            x.day();
        }
        Check.due("WHITE on day 8", x.house(1, 2), 7);
        x.pay(0, 2);
        Check.due("WHITE, one gone", x.house(1, 2), 7);
        x.day();
        Check.due("WHITE on day 9", x.house(1, 2), 8);
        Check.due("WHITE, where nobody sat", x.house(0, 2), 0);
    }

    // Promise 6, "Of a house 0 its place": the least, the most
    private static void placeOfAHouse() {
        GrudgeLoft x = Check.town(Check.NO_BIRDS);
        int[] due = {0, 99, 60};
        for (int h = 0; h < due.length; h++) {
            int house = h;
            Check.granted(x, "house(" + h + ", 0)", () -> x.house(house, 0), due[h]);
        }
    }

    // Promise 6, "1 coins NOW": as told, less by what it paid for birds and MEETINGS
    private static void coinsOfAHouse() {
        GrudgeLoft x = Check.town(Check.FULL);
        Check.granted(x, "house(5, 1)", () -> x.house(5, 1), 300);
        Check.days(x, 5);
        x.pay(0, 7);
        Check.granted(x, "house(1, 1), 7 paid", () -> x.house(1, 1), 63);
        x.meet(1, 3);
        Check.granted(x, "house(1, 1), 2 for a MEETING", () -> x.house(1, 1), 61);
        Check.granted(x, "house(0, 1)", () -> x.house(0, 1), 60);
    }

    // Promise 6, "2 WHITE so far": the day NOW with them, what is to come without
    private static void whiteOfAHouse() {
        GrudgeLoft x = Check.town(Check.TOWN);
        Check.granted(x, "house(0, 2)", () -> x.house(0, 2), 0);
        Check.days(x, 2);
        Check.granted(x, "house(0, 2), day 2", () -> x.house(0, 2), 0);
        x.day();
        Check.granted(x, "house(0, 2), day 3", () -> x.house(0, 2), 1);
        x.day();
        Check.granted(x, "house(0, 2), day 4", () -> x.house(0, 2), 3);
    }

    // Promise 6, "3 birds that SIT there NOW, as bits": none, some; not those in FLIGHT there, those gone, strays
    private static void sittersOfAHouse() {
        GrudgeLoft x = Check.town(Check.TOWN + ";stray s from bay day 0;stray t from cot day 0");
        Check.days(x, 2);
        Check.granted(x, "house(0, 3), day 2", () -> x.house(0, 3), 0);
        x.day();
        Check.granted(x, "house(0, 3), day 3", () -> x.house(0, 3), 0b0100);
        Check.days(x, 2);
        Check.granted(x, "house(0, 3), day 5", () -> x.house(0, 3), 0b0110);
        Check.granted(x, "house(1, 3), day 5", () -> x.house(1, 3), 0b0001);
        Check.granted(x, "house(2, 3), day 5", () -> x.house(2, 3), 0b1000);
        x.pay(2, 8);
        Check.granted(x, "house(0, 3), one gone", () -> x.house(0, 3), 0b0010);
    }

    // Promise 6, "4 birds FOR it that aren't gone, as bits.": wherever they are; none
    private static void birdsForAHouse() {
        GrudgeLoft x = Check.town(Check.TOWN);
        Check.granted(x, "house(0, 4)", () -> x.house(0, 4), 0b0110);
        Check.granted(x, "house(1, 4)", () -> x.house(1, 4), 0b1001);
        Check.granted(x, "house(2, 4)", () -> x.house(2, 4), 0);
        x.meet(0, 1);
        Check.granted(x, "house(0, 4), two met", () -> x.house(0, 4), 0b0100);
        Check.granted(x, "house(1, 4), two met", () -> x.house(1, 4), 0b1000);
    }

    // Promise 6, "NONE: 1.": no TOWN, no such house, nothing such of it
    private static void houseRefused() {
        GrudgeLoft none = new GrudgeLoft();
        Check.refused(none, "house(0, 0), no town", () -> none.house(0, 0), 1);
        GrudgeLoft x = Check.town(Check.TOWN);
        for (int h : new int[] {-1, 3, 6, Integer.MAX_VALUE, Integer.MIN_VALUE}) {
            Check.refused(x, "house(" + h + ", 0)", () -> x.house(h, 0), 1);
        }
        for (int what : new int[] {-1, 5, Integer.MAX_VALUE, Integer.MIN_VALUE}) {
            Check.refused(x, "house(0, " + what + ")", () -> x.house(0, what), 1);
        }
    }

    // Promise 7, "Of a bird 0 KIND (0 plain, 1 honest, 2 proud, 3 blind)": each
    private static void kindOfABird() {
        GrudgeLoft x = Check.town(Check.TOWN);
        for (int b = 0; b < 4; b++) {
            int bird = b;
            Check.granted(x, "bird(" + b + ", 0)", () -> x.bird(bird, 0), b);
        }
    }

    // Promise 7, "1 from, 2 FOR, 3 its SILL, 4 its FLIGHT, 5 NEED, 6 LEFT NOW": of each bird, gone ones too
    private static void toldOfABird() {
        GrudgeLoft x = Check.town(Check.TOWN);
        int[][] told = {{0, 1, 1, 3, 12, 12}, {1, 0, 0, 3, 5, 5}, {2, 0, 0, 3, 8, 8}, {0, 1, 2, 3, 6, 6}};
        for (int round = 0; round < 2; round++) {
            for (int b = 0; b < told.length; b++) {
                for (int what = 1; what <= 6; what++) {
                    int bird = b;
                    int asked = what;
                    Check.granted(x, "bird(" + b + ", " + what + ")", () -> x.bird(bird, asked), told[b][what - 1]);
                }
            }
            x.meet(0, 1);
        }
    }

    // Promise 7, "7 where it is NOW (0 in the loft, 1 in FLIGHT, 2 it SITS, 3 gone).": day by day
    private static void stateOfABird() {
        GrudgeLoft x = Check.town(Check.TOWN);
        int[] where = {0, 1, 1, 1, 2, 2};
        for (int day = 0; day < where.length; day++) {
            Check.granted(x, "bird(1, 7), day " + day, () -> x.bird(1, 7), where[day]);
            x.day();
        }
        x.pay(1, 5);
        Check.granted(x, "bird(1, 7), paid", () -> x.bird(1, 7), 3);
        GrudgeLoft y = Check.town(Check.TOWN);
        y.meet(0, 1);
        Check.granted(y, "bird(1, 7), met ahead of its day", () -> y.bird(1, 7), 3);
        Check.granted(y, "bird(0, 7), met in FLIGHT", () -> y.bird(0, 7), 3);
    }

    // Promise 7, "NONE: 1.": no TOWN, no birds, no such bird, nothing such of it
    private static void birdRefused() {
        GrudgeLoft none = new GrudgeLoft();
        Check.refused(none, "bird(0, 0), no town", () -> none.bird(0, 0), 1);
        GrudgeLoft empty = Check.town(Check.NO_BIRDS);
        Check.refused(empty, "bird(0, 0), no birds", () -> empty.bird(0, 0), 1);
        GrudgeLoft x = Check.town(Check.TOWN + ";stray s from ash day 0");
        for (int b : new int[] {-1, 4, 7, Integer.MAX_VALUE, Integer.MIN_VALUE}) {
            Check.refused(x, "bird(" + b + ", 0)", () -> x.bird(b, 0), 1);
        }
        for (int what : new int[] {-1, 8, Integer.MAX_VALUE, Integer.MIN_VALUE}) {
            Check.refused(x, "bird(0, " + what + ")", () -> x.bird(0, what), 1);
        }
    }

    // Promise 8, "How many days apart by FLIGHT two houses are.": none, the fewest wings, the most; both ways
    private static void apart() {
        GrudgeLoft x = Check.town(Check.TOWN);
        Check.granted(x, "apart(0, 1)", () -> x.apart(0, 1), 3);
        Check.granted(x, "apart(2, 0)", () -> x.apart(2, 0), 3);
        Check.granted(x, "apart(2, 1)", () -> x.apart(2, 1), 1);
        Check.granted(x, "apart(1, 2)", () -> x.apart(1, 2), 1);
        GrudgeLoft y = Check.town(Check.NO_BIRDS + ";house d at 99 coins 0");
        Check.granted(y, "apart by 99", () -> y.apart(0, 1), 99);
        Check.granted(y, "apart by none", () -> y.apart(1, 3), 0);
        GrudgeLoft z = Check.town("loft wings 50 hawks 0 storm 0;house a at 0 coins 9;house b at 99 coins 9;"
                + "house c at 50 coins 0;house d at 51 coins 0");
        Check.granted(z, "apart by 99 of 50", () -> z.apart(1, 0), 2);
        Check.granted(z, "apart by 50 of 50", () -> z.apart(0, 2), 1);
        Check.granted(z, "apart by 51 of 50", () -> z.apart(0, 3), 2);
    }

    // Promise 8, "NONE: 1 (unlike).": no TOWN, no such house on either side, the same one
    private static void apartRefused() {
        GrudgeLoft none = new GrudgeLoft();
        Check.refused(none, "apart(0, 1), no town", () -> none.apart(0, 1), 1);
        GrudgeLoft x = Check.town(Check.TOWN);
        for (int h = 0; h < 3; h++) {
            int house = h;
            Check.refused(x, "apart(" + h + ", " + h + ")", () -> x.apart(house, house), 1);
        }
        for (int h : new int[] {-1, 3, 6, Integer.MAX_VALUE, Integer.MIN_VALUE}) {
            Check.refused(x, "apart(" + h + ", 1)", () -> x.apart(h, 1), 1);
            Check.refused(x, "apart(1, " + h + ")", () -> x.apart(1, h), 1);
        }
    }

    // Promise 9, "Birds not gone, as bits.": all seven, fewer, none of them, none told
    private static void birds() {
        GrudgeLoft x = Check.town(Check.FULL);
        Check.granted(x, "birds()", x::birds, 0b1111111);
        x.meet(0, 3);
        Check.granted(x, "birds(), two met", x::birds, 0b1110110);
        Check.days(x, 7);
        int[] lefts = {0, 6, 5, 0, 3, 2, 1};
        for (int b : new int[] {1, 2, 4, 5, 6}) {
            x.pay(b, lefts[b]);
        }
        Check.granted(x, "birds(), all gone", x::birds, 0);
        GrudgeLoft y = Check.town(Check.NO_BIRDS);
        Check.granted(y, "birds() of none", y::birds, 0);
    }

    // Promise 9, "NONE: 1 (no TOWN).": ahead of the first loft
    private static void birdsRefused() {
        GrudgeLoft x = new GrudgeLoft();
        Check.refused(x, "birds()", x::birds, 1);
    }

    // Promise 10, "The house with most birds that SIT": not with most on their way, nor gone
    private static void fullest() {
        GrudgeLoft x = Check.town(Check.TOWN);
        Check.days(x, 5);
        Check.granted(x, "fullest(), two on ash, one on bay, one on cot", x::fullest, 0);
        x.pay(1, 5);
        x.pay(2, 8);
        x.pay(3, 6);
        Check.granted(x, "fullest(), but one SITS, on bay", x::fullest, 1);
        GrudgeLoft y = Check.town(Check.TOWN);
        Check.days(y, 5);
        y.meet(0, 1);
        y.pay(2, 8);
        Check.granted(y, "fullest(), but one SITS, on cot", y::fullest, 2);
    }

    // Promise 10, "the first such.": of none that SIT, of as many on each
    private static void fullestOfLikeOnes() {
        GrudgeLoft x = Check.town(Check.HOUSES + "bird p plain from bay to cot day 0 wrong 1;"
                + "bird q plain from ash to bay day 0 wrong 2;bird r plain from cot to bay day 5 wrong 2");
        Check.granted(x, "fullest(), nobody", x::fullest, 0);
        Check.days(x, 1);
        Check.granted(x, "fullest(), one on cot", x::fullest, 2);
        Check.days(x, 2);
        Check.granted(x, "fullest(), one on bay, one on cot", x::fullest, 1);
        GrudgeLoft y = Check.town(Check.NO_BIRDS);
        Check.granted(y, "fullest() without birds", y::fullest, 0);
    }

    // Promise 10, "NONE: 1 (no TOWN).": ahead of the first loft
    private static void fullestRefused() {
        GrudgeLoft x = new GrudgeLoft();
        Check.refused(x, "fullest()", x::fullest, 1);
    }

    // Promise 11, "Houses FOR which no bird is that isn't gone, as bits.": none, some, all; not by SILLS
    private static void clean() {
        GrudgeLoft x = Check.town(Check.TOWN);
        Check.granted(x, "clean(), poe is not FOR cot", x::clean, 0b100);
        Check.days(x, 5);
        x.pay(2, 8);
        Check.granted(x, "clean(), one gone", x::clean, 0b100);
        x.meet(0, 1);
        Check.granted(x, "clean(), none for ash", x::clean, 0b101);
        x.pay(3, 6);
        Check.granted(x, "clean(), all gone", x::clean, 0b111);
        GrudgeLoft two = Check.town(AT_ONCE + ";bird r plain from b to a day 0 wrong 1");
        Check.granted(two, "clean() of none", two::clean, 0);
        GrudgeLoft y = Check.town(Check.NO_BIRDS);
        Check.granted(y, "clean() without birds", y::clean, 0b111);
    }

    // Promise 11, "NONE: 1 (no TOWN).": ahead of the first loft
    private static void cleanRefused() {
        GrudgeLoft x = new GrudgeLoft();
        Check.refused(x, "clean()", x::clean, 1);
    }

    // Terms I, "up to 7)": of six houses and seven birds, and of two and one behind them, all is told as of others
    private static void fullTown() {
        GrudgeLoft x = Check.town(Check.FULL);
        Check.days(x, 7);
        int[] sitting = {0b0001000, 0b1000111, 0b0100000, 0, 0, 0b0010000};
        int[] white = {4, 19, 2, 0, 0, 3};
        for (int h = 0; h < 6; h++) {
            Check.due("house(" + h + ", 3)", x.house(h, 3), sitting[h]);
            Check.due("house(" + h + ", 2)", x.house(h, 2), white[h]);
            Check.due("house(" + h + ", 4)", x.house(h, 4), sitting[h]);
        }
        Check.due("clean()", x.clean(), 0b011000);
        Check.due("fullest()", x.fullest(), 1);
        Check.loft(x, AT_ONCE);
        Check.due("clean() of two houses", x.clean(), 0b01);
        Check.due("fullest() of two houses", x.fullest(), 1);
        Check.due("birds() of one", x.birds(), 1);
        x.day();
        Check.due("WHITE of the second one", x.house(1, 2), 1);
    }
}
