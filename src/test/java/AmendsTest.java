/** Terms III, PEACE and MOST, and promises 19 to 32: meetings, what is owed, rings. */
public final class AmendsTest {
    private static final int[] NO_BIRDS = {-1, 4, 7, Integer.MAX_VALUE, Integer.MIN_VALUE};
    private static final int[] NO_HOUSES = {-1, 3, 6, Integer.MAX_VALUE, Integer.MIN_VALUE};
    /** Two FOR b, two FOR a, all LEFTS 5. */
    private static final String FOUR = Check.HOUSES + "bird p plain from ash to bay day 0 wrong 5;"
            + "bird q plain from bay to ash day 0 wrong 5;bird r plain from ash to bay day 0 wrong 5;"
            + "bird s plain from bay to ash day 0 wrong 5";
    /** Three of one side may MEET q of the other, which LEFT is the least. */
    private static final String THREE_AND_ONE = Check.HOUSES + "bird p plain from ash to bay day 0 wrong 9;"
            + "bird q plain from bay to ash day 0 wrong 4;bird r plain from ash to bay day 0 wrong 7;"
            + "bird s plain from ash to bay day 0 wrong 5";
    /** bay wronged ash, cot wronged bay, ash wronged cot. */
    private static final String RING = Check.HOUSES + "bird p plain from ash to bay day 0 wrong 1;"
            + "bird q plain from bay to cot day 0 wrong 1;bird r plain from cot to ash day 0 wrong 1";

    public static void main(String[] args) {
        mayMeet();
        mayMeetTheLast();
        mayMeetOfThoseGone();
        mayMeetRefused();
        meeting();
        meetingOfThoseThatCannot();
        meetingRefused();
        owes();
        owesRefused();
        poor();
        poorRefused();
        peace();
        peaceWhoeverHasCoins();
        peaceOfNone();
        peaceRefused();
        mate();
        mateAloneAheadOfAll();
        mateByNumbers();
        mateOneMeetingAtMost();
        mateOfThoseGone();
        mateRefused();
        peaces();
        peacesOfOne();
        peacesRefused();
        most();
        mostOfLikeOnes();
        mostOfThoseNotGone();
        mostRefused();
        coinsFor();
        coinsForTooMany();
        coinsForRefused();
        fullTown();
        Check.end("AmendsTest");
    }

    // Promise 19, "Birds a bird may MEET NOW, as bits.": none, one, more; of one side none; be they in the loft
    private static void mayMeet() {
        GrudgeLoft x = Check.town(Check.TOWN);
        int[] due = {0b0010, 0b1001, 0, 0b0010};
        for (int b = 0; b < due.length; b++) {
            int bird = b;
            Check.granted(x, "mayMeet(" + b + ")", () -> x.mayMeet(bird), due[b]);
        }
    }

    // Promise 19, "Birds a bird may MEET NOW, as bits.": up to the last bits
    private static void mayMeetTheLast() {
        GrudgeLoft x = Check.town("loft wings 1 hawks 0 storm 0;house a at 0 coins 0;house b at 9 coins 0;"
                + "bird p plain from a to b day 0 wrong 1;bird q plain from a to b day 0 wrong 1;"
                + "bird r plain from a to b day 0 wrong 1;bird s plain from b to a day 0 wrong 1;"
                + "bird t plain from b to a day 0 wrong 1;bird u plain from a to b day 0 wrong 1;"
                + "bird v plain from b to a day 0 wrong 1");
        for (int b = 0; b < 7; b++) {
            int bird = b;
            boolean isFromA = (0b0100111 >> b & 1) != 0;
            Check.granted(x, "mayMeet(" + b + ")", () -> x.mayMeet(bird), isFromA ? 0b1011000 : 0b0100111);
        }
        Check.granted(x, "peaces()", x::peaces, 4 * 3 * 2);
        int[] due = {-2, 3, 4, 1, 2, 6, 5};
        for (int b = 0; b < due.length; b++) {
            int bird = b;
            Check.granted(x, "mate(" + b + ")", () -> x.mate(bird), due[b]);
        }
    }

    // Terms II, "two birds not gone, each from the house the other one is for, that one's too": gone ones meet none
    private static void mayMeetOfThoseGone() {
        GrudgeLoft x = Check.town(FOUR);
        x.meet(0, 1);
        Check.granted(x, "mayMeet(0), gone", () -> x.mayMeet(0), 0);
        Check.granted(x, "mayMeet(1), gone", () -> x.mayMeet(1), 0);
        Check.granted(x, "mayMeet(2), one gone", () -> x.mayMeet(2), 0b1000);
        GrudgeLoft ring = Check.town(RING);
        Check.granted(ring, "mayMeet(0) of a ring of three", () -> ring.mayMeet(0), 0);
    }

    // Promise 19, "NONE: 1.": no TOWN, no such bird
    private static void mayMeetRefused() {
        GrudgeLoft none = new GrudgeLoft();
        Check.refused(none, "mayMeet(0), no town", () -> none.mayMeet(0), 1);
        GrudgeLoft x = Check.town(Check.TOWN);
        for (int b : NO_BIRDS) {
            Check.refused(x, "mayMeet(" + b + ")", () -> x.mayMeet(b), 1);
        }
    }

    // Promise 20, "What it costs if two MEET;": by how much one has more LEFT, either way round; 0 of like ones
    private static void meeting() {
        GrudgeLoft x = Check.town(Check.TOWN);
        Check.granted(x, "meeting(0, 1)", () -> x.meeting(0, 1), 7);
        Check.granted(x, "meeting(1, 0)", () -> x.meeting(1, 0), 7);
        Check.granted(x, "meeting(1, 3)", () -> x.meeting(1, 3), 1);
        Check.days(x, 3);
        x.pay(0, 9);
        Check.granted(x, "meeting(0, 1), 9 paid", () -> x.meeting(0, 1), 2);
        Check.granted(x, "meeting(1, 0), 9 paid", () -> x.meeting(1, 0), 2);
        GrudgeLoft like = Check.town(FOUR);
        Check.granted(like, "meeting of like ones", () -> like.meeting(0, 3), 0);
    }

    // Promise 20, "-2 they can't.": of one side, of other houses, one gone, both
    private static void meetingOfThoseThatCannot() {
        GrudgeLoft x = Check.town(Check.TOWN);
        Check.granted(x, "meeting(0, 3), of one side", () -> x.meeting(0, 3), -2);
        Check.granted(x, "meeting(0, 2), FOR the other's house alone", () -> x.meeting(0, 2), -2);
        Check.granted(x, "meeting(1, 2), both FOR ash", () -> x.meeting(1, 2), -2);
        x.meet(1, 3);
        Check.granted(x, "meeting(0, 1), one gone", () -> x.meeting(0, 1), -2);
        Check.granted(x, "meeting(1, 0), one gone", () -> x.meeting(1, 0), -2);
        Check.granted(x, "meeting(3, 1), both gone", () -> x.meeting(3, 1), -2);
    }

    // Promise 20, "NONE: 1 (unlike).": no TOWN, no such bird on either side, the same one
    private static void meetingRefused() {
        GrudgeLoft none = new GrudgeLoft();
        Check.refused(none, "meeting(0, 1), no town", () -> none.meeting(0, 1), 1);
        GrudgeLoft x = Check.town(Check.TOWN);
        Check.refused(x, "meeting(0, 0)", () -> x.meeting(0, 0), 1);
        Check.refused(x, "meeting(3, 3)", () -> x.meeting(3, 3), 1);
        for (int b : NO_BIRDS) {
            Check.refused(x, "meeting(0, " + b + ")", () -> x.meeting(0, b), 1);
            Check.refused(x, "meeting(" + b + ", 0)", () -> x.meeting(b, 0), 1);
        }
    }

    // Promise 21, "What a house owes: LEFTS of all birds FOR it that aren't gone.": 0 of none; not by SILLS
    private static void owes() {
        GrudgeLoft x = Check.town(Check.TOWN);
        Check.granted(x, "owes(0)", () -> x.owes(0), 13);
        Check.granted(x, "owes(1)", () -> x.owes(1), 18);
        Check.granted(x, "owes(2)", () -> x.owes(2), 0);
        Check.days(x, 3);
        x.pay(0, 4);
        Check.granted(x, "owes(1), 4 paid", () -> x.owes(1), 14);
        x.meet(1, 3);
        Check.granted(x, "owes(1), one gone", () -> x.owes(1), 8);
        Check.granted(x, "owes(0), one gone", () -> x.owes(0), 8);
        x.pay(2, 8);
        Check.granted(x, "owes(0), all gone", () -> x.owes(0), 0);
    }

    // Promise 21, "NONE: 1.": no TOWN, no such house
    private static void owesRefused() {
        GrudgeLoft none = new GrudgeLoft();
        Check.refused(none, "owes(0), no town", () -> none.owes(0), 1);
        GrudgeLoft x = Check.town(Check.TOWN);
        for (int h : NO_HOUSES) {
            Check.refused(x, "owes(" + h + ")", () -> x.owes(h), 1);
        }
    }

    // Promise 22, "Houses that have fewer coins NOW than they owe, as bits.": one fewer, just as many, none of none
    private static void poor() {
        GrudgeLoft y = Check.town(Check.LOFT + "house a at 0 coins 4;house b at 9 coins 5;house c at 9 coins 0;"
                + "house d at 9 coins 0;bird p plain from a to b day 0 wrong 5;bird q plain from b to a day 0 wrong 5;"
                + "bird r plain from b to c day 0 wrong 1");
        Check.granted(y, "poor(), 4 of 5, 5 of 5, 0 of 1, 0 of 0", y::poor, 0b0101);
        Check.days(y, 1);
        y.pay(1, 4);
        Check.granted(y, "poor(), 0 of 1, 5 of 5, 0 of 1, 0 of 0", y::poor, 0b0101);
        y.undo();
        y.meet(0, 1);
        Check.granted(y, "poor(), two met", y::poor, 0b0100);
        GrudgeLoft x = Check.town(Check.NO_BIRDS);
        Check.granted(x, "poor() without birds", x::poor, 0);
    }

    // Promise 22, "NONE: 1 (no TOWN).": ahead of the first loft
    private static void poorRefused() {
        GrudgeLoft x = new GrudgeLoft();
        Check.refused(x, "poor()", x::poor, 1);
    }

    // Promise 23, "PEACE: the coins.": the fewest together, of LEFTS NOW
    private static void peace() {
        GrudgeLoft x = Check.town(Check.TOWN);
        Check.granted(x, "peace()", x::peace, 21);
        Check.days(x, 5);
        x.pay(3, 3);
        Check.granted(x, "peace(), 3 paid for poe", x::peace, 7 + 8 + 3);
        x.meet(0, 1);
        Check.granted(x, "peace(), two gone", x::peace, 11);
        GrudgeLoft like = Check.town(FOUR);
        Check.granted(like, "peace() for nothing", like::peace, 0);
        GrudgeLoft y = Check.town(THREE_AND_ONE);
        Check.granted(y, "peace() of three and one", y::peace, 17);
    }

    // Terms III, "whoever has coins:": of houses that have none, too
    private static void peaceWhoeverHasCoins() {
        GrudgeLoft x = Check.town(Check.LOFT + "house a at 0 coins 0;house b at 9 coins 0;house c at 9 coins 0;"
                + "bird p plain from a to b day 0 wrong 5;bird q plain from b to a day 0 wrong 9;"
                + "bird r proud from a to c day 30 wrong 60");
        Check.granted(x, "peace() of the poor", x::peace, 4 + 120);
        Check.granted(x, "mate(0) of the poor", () -> x.mate(0), 1);
    }

    // Terms III, "of all birds not gone each goes": there being none, nothing is paid
    private static void peaceOfNone() {
        GrudgeLoft x = Check.town(Check.NO_BIRDS);
        Check.granted(x, "peace() without birds", x::peace, 0);
        Check.granted(x, "peaces() without birds", x::peaces, 1);
        GrudgeLoft y = Check.town(FOUR);
        y.meet(0, 1);
        y.meet(2, 3);
        Check.granted(y, "peace(), all gone", y::peace, 0);
        Check.granted(y, "peaces(), all gone", y::peaces, 1);
    }

    // Promise 23, "NONE: 1 (no TOWN).": ahead of the first loft
    private static void peaceRefused() {
        GrudgeLoft x = new GrudgeLoft();
        Check.refused(x, "peace()", x::peace, 1);
    }

    // Promise 24, "With whom a bird MEETS by it; -2 it is alone": both ways
    private static void mate() {
        GrudgeLoft x = Check.town(Check.TOWN);
        Check.days(x, 5);
        x.pay(3, 3);
        int[] due = {1, 0, -2, -2};
        for (int b = 0; b < due.length; b++) {
            int bird = b;
            Check.granted(x, "mate(" + b + ")", () -> x.mate(bird), due[b]);
        }
    }

    // Terms III, "(alone ahead of all": of like coins the first bird is rather alone than with one of a less number
    private static void mateAloneAheadOfAll() {
        GrudgeLoft x = Check.town(Check.TOWN);
        int[] due = {-2, 3, -2, 1};
        for (int b = 0; b < due.length; b++) {
            int bird = b;
            Check.granted(x, "mate(" + b + ")", () -> x.mate(bird), due[b]);
        }
        // q with p, r or s spares as much: p is rather alone, then q is rather with r, of the lesser number
        GrudgeLoft y = Check.town(THREE_AND_ONE);
        int[] rather = {-2, 2, 1, -2};
        for (int b = 0; b < rather.length; b++) {
            int bird = b;
            Check.granted(y, "mate(" + b + ") of three and one", () -> y.mate(bird), rather[b]);
        }
    }

    // Terms III, "then by numbers).": of like coins with that of the least number
    private static void mateByNumbers() {
        GrudgeLoft x = Check.town(FOUR);
        int[] due = {1, 0, 3, 2};
        for (int b = 0; b < due.length; b++) {
            int bird = b;
            Check.granted(x, "mate(" + b + ")", () -> x.mate(bird), due[b]);
        }
        // 0 and 1 on one side: 0 rather with 3 than with 4
        GrudgeLoft y = Check.town(Check.HOUSES + "bird p plain from ash to bay day 0 wrong 5;"
                + "bird q plain from ash to bay day 0 wrong 5;bird r plain from cot to bay day 0 wrong 5;"
                + "bird s plain from bay to ash day 0 wrong 5;bird t plain from bay to ash day 0 wrong 5");
        int[] crossed = {3, 4, -2, 0, 1};
        for (int b = 0; b < crossed.length; b++) {
            int bird = b;
            Check.granted(y, "mate(" + b + ") of two by two", () -> y.mate(bird), crossed[b]);
        }
    }

    // Terms III, "(each in one MEETING at most)": two that would best MEET one bird can't both
    private static void mateOneMeetingAtMost() {
        GrudgeLoft x = Check.town(Check.HOUSES + "bird p plain from ash to bay day 0 wrong 9;"
                + "bird q plain from ash to bay day 0 wrong 8;bird r plain from bay to ash day 0 wrong 9");
        Check.granted(x, "peace()", x::peace, 8);
        Check.granted(x, "mate(0)", () -> x.mate(0), 2);
        Check.granted(x, "mate(1)", () -> x.mate(1), -2);
        Check.granted(x, "mate(2)", () -> x.mate(2), 0);
        // q with r would be as cheap as q with s, were r not with p
        GrudgeLoft y = Check.town(Check.HOUSES + "bird p plain from ash to bay day 0 wrong 5;"
                + "bird q plain from ash to bay day 0 wrong 5;bird r plain from bay to ash day 0 wrong 2;"
                + "bird s plain from bay to ash day 0 wrong 1");
        int[] due = {2, 3, 0, 1};
        for (int b = 0; b < due.length; b++) {
            int bird = b;
            Check.granted(y, "mate(" + b + ") of two by two", () -> y.mate(bird), due[b]);
        }
    }

    // Promise 24, "or gone.": they are no one's mates, nor have any
    private static void mateOfThoseGone() {
        GrudgeLoft x = Check.town(FOUR);
        x.meet(0, 3);
        int[] due = {-2, 2, 1, -2};
        for (int b = 0; b < due.length; b++) {
            int bird = b;
            Check.granted(x, "mate(" + b + ")", () -> x.mate(bird), due[b]);
        }
    }

    // Promise 24, "NONE: 1.": no TOWN, no such bird
    private static void mateRefused() {
        GrudgeLoft none = new GrudgeLoft();
        Check.refused(none, "mate(0), no town", () -> none.mate(0), 1);
        GrudgeLoft x = Check.town(Check.TOWN);
        for (int b : NO_BIRDS) {
            Check.refused(x, "mate(" + b + ")", () -> x.mate(b), 1);
        }
    }

    // Promise 25, "In how many rows of partners as few coins are paid.": two, three
    private static void peaces() {
        GrudgeLoft x = Check.town(Check.TOWN);
        Check.granted(x, "peaces()", x::peaces, 2);
        GrudgeLoft like = Check.town(FOUR);
        Check.granted(like, "peaces() for nothing", like::peaces, 2);
        GrudgeLoft y = Check.town(THREE_AND_ONE);
        Check.granted(y, "peaces() of three and one", y::peaces, 3);
        GrudgeLoft z = Check.town(FOUR + ";bird t plain from ash to bay day 0 wrong 5;"
                + "bird u plain from bay to ash day 0 wrong 5");
        Check.granted(z, "peaces() of three and three", z::peaces, 6);
    }

    // Promise 25, "In how many rows of partners": in one, if nobody can MEET or but one row is as cheap
    private static void peacesOfOne() {
        GrudgeLoft x = Check.town(RING);
        Check.granted(x, "peaces(), nobody can", x::peaces, 1);
        GrudgeLoft y = Check.town(Check.TOWN);
        Check.days(y, 5);
        y.pay(3, 3);
        Check.granted(y, "peaces(), 3 paid for poe", y::peaces, 1);
    }

    // Promise 25, "NONE: 1 (no TOWN).": ahead of the first loft
    private static void peacesRefused() {
        GrudgeLoft x = new GrudgeLoft();
        Check.refused(x, "peaces()", x::peaces, 1);
    }

    // Promise 26, "MOST for so many coins (0 .. 999), as bits.": one coin fewer than it takes, just so many; 0, 999
    private static void most() {
        GrudgeLoft x = Check.town(Check.TOWN);
        int[][] due = {{0, 0}, {4, 0}, {5, 0b0010}, {10, 0b0010}, {11, 0b1010}, {18, 0b1010}, {19, 0b1110},
            {30, 0b1110}, {31, 0b1111}, {999, 0b1111}};
        for (int[] row : due) {
            Check.granted(x, "most(" + row[0] + ")", () -> x.most(row[0]), row[1]);
        }
        GrudgeLoft y = Check.town(Check.NO_BIRDS);
        Check.granted(y, "most(999) without birds", () -> y.most(999), 0);
    }

    // Terms III, "most birds; of like ones the fewest coins, of these the least bits.": one by one
    private static void mostOfLikeOnes() {
        GrudgeLoft x = Check.town(Check.HOUSES + "bird p plain from ash to bay day 0 wrong 9;"
                + "bird q plain from bay to ash day 0 wrong 4;bird r plain from ash to bay day 0 wrong 4;"
                + "bird s plain from ash to bay day 0 wrong 4");
        Check.granted(x, "most(7): the least bits", () -> x.most(7), 0b0010);
        Check.granted(x, "most(8): two", () -> x.most(8), 0b0110);
        Check.granted(x, "most(11): two for 8", () -> x.most(11), 0b0110);
        Check.granted(x, "most(12): three", () -> x.most(12), 0b1110);
        Check.granted(x, "most(20): three for 12, though three for 17 have less bits", () -> x.most(20), 0b1110);
    }

    // Terms III, "sets of birds not gone whose LEFTS together are no more": what was paid NOW, nobody who is gone
    private static void mostOfThoseNotGone() {
        GrudgeLoft x = Check.town(Check.TOWN);
        Check.days(x, 5);
        x.pay(0, 8);
        Check.granted(x, "most(4), 8 paid for pip", () -> x.most(4), 0b0001);
        x.meet(1, 3);
        Check.granted(x, "most(11), two gone", () -> x.most(11), 0b0001);
        Check.granted(x, "most(12), two gone", () -> x.most(12), 0b0101);
        x.pay(0, 4);
        x.pay(2, 8);
        Check.granted(x, "most(999), all gone", () -> x.most(999), 0);
    }

    // Promise 26, "NONE: 1 (no TOWN); 2.": the TOWN first; coins too few, too many
    private static void mostRefused() {
        GrudgeLoft none = new GrudgeLoft();
        Check.refused(none, "most(0), no town", () -> none.most(0), 1);
        Check.refused(none, "most(-1), no town", () -> none.most(-1), 1);
        GrudgeLoft x = Check.town(Check.TOWN);
        for (int coins : new int[] {-1, 1000, Integer.MAX_VALUE, Integer.MIN_VALUE}) {
            Check.refused(x, "most(" + coins + ")", () -> x.most(coins), 2);
        }
    }

    // Promise 27, "The fewest coins for so many birds (0 .. 7), by their LEFTS;": for none, one, all seven
    private static void coinsFor() {
        GrudgeLoft x = Check.town(Check.TOWN);
        int[] due = {0, 5, 11, 19, 31};
        for (int many = 0; many < due.length; many++) {
            int birds = many;
            Check.granted(x, "coinsFor(" + many + ")", () -> x.coinsFor(birds), due[many]);
        }
        Check.days(x, 3);
        x.pay(0, 11);
        Check.granted(x, "coinsFor(1), 11 paid", () -> x.coinsFor(1), 1);
        GrudgeLoft y = Check.town(Check.FULL);
        Check.granted(y, "coinsFor(7) of seven", () -> y.coinsFor(7), 28);
        Check.granted(y, "coinsFor(6) of seven", () -> y.coinsFor(6), 21);
    }

    // Promise 27, "-2 there aren't so many.": one more than are not gone
    private static void coinsForTooMany() {
        GrudgeLoft x = Check.town(Check.TOWN);
        Check.granted(x, "coinsFor(5)", () -> x.coinsFor(5), -2);
        Check.granted(x, "coinsFor(7)", () -> x.coinsFor(7), -2);
        x.meet(1, 3);
        Check.granted(x, "coinsFor(1), two gone", () -> x.coinsFor(1), 8);
        Check.granted(x, "coinsFor(2), two gone", () -> x.coinsFor(2), 20);
        Check.granted(x, "coinsFor(3), two gone", () -> x.coinsFor(3), -2);
        GrudgeLoft y = Check.town(Check.NO_BIRDS);
        Check.granted(y, "coinsFor(0) without birds", () -> y.coinsFor(0), 0);
        Check.granted(y, "coinsFor(1) without birds", () -> y.coinsFor(1), -2);
    }

    // Promise 27, "NONE: 1 (no TOWN); 2.": the TOWN first; too few, too many
    private static void coinsForRefused() {
        GrudgeLoft none = new GrudgeLoft();
        Check.refused(none, "coinsFor(0), no town", () -> none.coinsFor(0), 1);
        Check.refused(none, "coinsFor(8), no town", () -> none.coinsFor(8), 1);
        GrudgeLoft x = Check.town(Check.TOWN);
        for (int many : new int[] {-1, 8, Integer.MAX_VALUE, Integer.MIN_VALUE}) {
            Check.refused(x, "coinsFor(" + many + ")", () -> x.coinsFor(many), 2);
        }
    }

    // Terms I, "up to 7)": of six houses and seven birds, and of two and two behind them, all is told as of others
    private static void fullTown() {
        GrudgeLoft x = Check.town(Check.FULL);
        int[] may = {8, 8, 8, 7, 0, 0, 0};
        for (int b = 0; b < 7; b++) {
            Check.due("mayMeet(" + b + ")", x.mayMeet(b), may[b]);
        }
        int[] owes = {4, 19, 2, 0, 0, 3};
        for (int h = 0; h < 6; h++) {
            Check.due("owes(" + h + ")", x.owes(h), owes[h]);
        }
        Check.due("poor()", x.poor(), 0);
        Check.due("peace()", x.peace(), 20);
        Check.due("peaces()", x.peaces(), 3);
        Check.due("mate(3)", x.mate(3), 2);
        Check.due("mate(6)", x.mate(6), -2);
        Check.due("most(9)", x.most(9), 0b1110000);
        Check.due("most(28)", x.most(28), 0b1111111);
        Check.loft(x, Check.LOFT + "house a at 0 coins 0;house b at 9 coins 9;bird p plain from a to b day 0 wrong 4;"
                + "bird q plain from b to a day 0 wrong 1");
        Check.due("owes(1) of two", x.owes(1), 4);
        Check.due("poor() of two", x.poor(), 1);
        Check.due("peace() of two", x.peace(), 3);
        Check.due("most(999) of two", x.most(999), 3);
        Check.due("mayMeet(0) of two", x.mayMeet(0), 2);
        Check.due("coinsFor(3) of two", x.coinsFor(3), -2);
    }
}
