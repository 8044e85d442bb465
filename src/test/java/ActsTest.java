/** Terms III, ACTS, UNDO and IMAGES, and promises 49 to 54. */
public final class ActsTest {
    private static final int[] NO_BIRDS = {-1, 4, 7, Integer.MAX_VALUE, Integer.MIN_VALUE};
    /** q SITS from the first day on; b, which it is FOR, has 4 coins. */
    private static final String POOR = Check.LOFT + "house a at 0 coins 9;house b at 0 coins 4;"
            + "bird q plain from a to b day 0 wrong 6";

    public static void main(String[] args) {
        dayAnswers();
        dayOfNone();
        dayRefused();
        dayFull();
        payAnswers();
        payToTheLastCoin();
        payByTheHouseItIsFor();
        payBounds();
        payRefusedFirst();
        payNotSo();
        payFewerCoins();
        payIsNoActIfRefused();
        meetAnswers();
        meetPaidByTheHouseOfThatWithMore();
        meetForNothing();
        meetWhereverTheyAre();
        meetRefusedFirst();
        meetCannot();
        meetFewerCoins();
        undoOfEachAct();
        undoTheLatestFirst();
        undoSixteen();
        undoOnAndOn();
        undoOfNothing();
        onlyActsCanBeUndone();
        imageNumbers();
        imageRefused();
        imageFull();
        imagesUpToThree();
        imageChangesNothing();
        backToEach();
        backUndoesNothing();
        backKeepsImages();
        backRefused();
        fullTown();
        Check.end("ActsTest");
    }

    // Promise 49, "DAY: how many birds SIT then.": on all houses, not those gone, nor strays
    private static void dayAnswers() {
        GrudgeLoft x = Check.town(Check.TOWN + ";stray s from ash day 0");
        int[] sitting = {0, 0, 2, 3, 4, 4};
        for (int i = 0; i < sitting.length; i++) {
            Check.granted(x, "day() " + i, x::day, sitting[i]);
            Check.due("the day", x.size(7), i + 1);
        }
        x.pay(0, 12);
        Check.granted(x, "day(), one gone", x::day, 3);
    }

    // Promise 49, "how many birds SIT then.": none of none; those that SIT from the first day on
    private static void dayOfNone() {
        GrudgeLoft x = Check.town(Check.NO_BIRDS);
        Check.granted(x, "day() without birds", x::day, 0);
        Check.due("the day", x.size(7), 1);
        GrudgeLoft y = Check.town(POOR);
        Check.granted(y, "day() of one", y::day, 1);
    }

    // Promise 49, "NONE: 1 (no TOWN)": ahead of the first loft no day goes by
    private static void dayRefused() {
        GrudgeLoft x = new GrudgeLoft();
        Check.refused(x, "day()", x::day, 1);
        Check.due("the day", x.size(7), 0);
        Check.due("ACTS", x.size(9), 0);
    }

    // Promise 49, "3 (999 went by).": the 999th goes by, the next doesn't. (512 calls don't reach it; it holds
    // behind, too)
    private static void dayFull() {
        GrudgeLoft x = Check.town(Check.TOWN);
        Check.days(x, 998);
        Check.granted(x, "day() 999", x::day, 4);
        Check.refusedAndStays(x, "day() 1000", x::day, 3);
        Check.due("the day stays", x.size(7), 999);
        Check.due("whiteIn(2, 60)", x.whiteIn(2, 60), 999 - 4 + 60);
        x.undo();
        Check.granted(x, "day() 999 once more", x::day, 4);
    }

    // Promise 50, "PAY so many coins (1 .. 999) for a bird: LEFT then": it SITS on
    private static void payAnswers() {
        GrudgeLoft x = Check.town(Check.TOWN);
        Check.days(x, 3);
        Check.granted(x, "pay(0, 5)", () -> x.pay(0, 5), 7);
        Check.granted(x, "pay(0, 1)", () -> x.pay(0, 1), 6);
        Check.due("LEFT", x.bird(0, 6), 6);
        Check.due("where it is", x.bird(0, 7), 2);
        Check.due("coins paid", x.size(8), 6);
        Check.due("ACTS", x.size(9), 5);
    }

    // Promise 50, "(0: it is gone)": one coin ahead of it, it isn't
    private static void payToTheLastCoin() {
        GrudgeLoft x = Check.town(Check.TOWN);
        Check.days(x, 3);
        Check.granted(x, "pay(0, 11)", () -> x.pay(0, 11), 1);
        Check.due("where it is, 1 LEFT", x.bird(0, 7), 2);
        Check.granted(x, "pay(0, 1)", () -> x.pay(0, 1), 0);
        Check.due("where it is, 0 LEFT", x.bird(0, 7), 3);
        Check.due("birds()", x.birds(), 0b1110);
        Check.granted(x, "pay(2, 8), all at once", () -> x.pay(2, 8), 0);
        Check.due("birds()", x.birds(), 0b1010);
    }

    // Terms III, "PAY for a bird (the house it is for)": not that on which it SITS, nor whence it came
    private static void payByTheHouseItIsFor() {
        GrudgeLoft x = Check.town(Check.TOWN);
        Check.days(x, 5);
        Check.granted(x, "pay(3, 6) for poe, on cot", () -> x.pay(3, 6), 0);
        int[] coins = {20, 44, 5};
        for (int h = 0; h < coins.length; h++) {
            Check.due("coins of " + h, x.house(h, 1), coins[h]);
        }
        Check.due("coins paid", x.size(8), 6);
    }

    // Promise 50, "so many coins (1 .. 999)": fewer or more are no number to pay
    private static void payBounds() {
        GrudgeLoft x = Check.town(Check.TOWN);
        Check.days(x, 3);
        Check.refusedAndStays(x, "pay(0, 0)", () -> x.pay(0, 0), 2);
        Check.refusedAndStays(x, "pay(0, 1000)", () -> x.pay(0, 1000), 2);
        for (int coins : new int[] {-1, Integer.MAX_VALUE, Integer.MIN_VALUE}) {
            Check.refused(x, "pay(0, " + coins + ")", () -> x.pay(0, coins), 2);
        }
        Check.refused(x, "pay(0, 999)", () -> x.pay(0, 999), 5);
        Check.granted(x, "pay(0, 1)", () -> x.pay(0, 1), 11);
        GrudgeLoft most = Check.town("loft wings 1 hawks 0 storm 0;house a at 0 coins 0;house b at 0 coins 300;"
                + "bird q proud from a to b day 0 wrong 60");
        Check.granted(most, "pay(0, 120), the most that may be LEFT", () -> most.pay(0, 120), 0);
    }

    // Promise 50, "NONE: 1; 2; 5": no TOWN, no such bird ahead of 2; 2 ahead of 5
    private static void payRefusedFirst() {
        GrudgeLoft none = new GrudgeLoft();
        Check.refused(none, "pay(0, 1), no town", () -> none.pay(0, 1), 1);
        Check.refused(none, "pay(0, 0), no town", () -> none.pay(0, 0), 1);
        GrudgeLoft x = Check.town(Check.TOWN);
        for (int b : NO_BIRDS) {
            Check.refused(x, "pay(" + b + ", 1)", () -> x.pay(b, 1), 1);
        }
        Check.refused(x, "pay(4, 0)", () -> x.pay(4, 0), 1);
        Check.refused(x, "pay(0, 0) in FLIGHT", () -> x.pay(0, 0), 2);
        Check.refused(x, "pay(0, 1000) in FLIGHT", () -> x.pay(0, 1000), 2);
    }

    // Promise 50, "5 (it is gone, doesn't SIT, LEFT is less);": gone by coins, by a MEETING; in the loft, in FLIGHT
    private static void payNotSo() {
        GrudgeLoft x = Check.town(Check.TOWN);
        Check.refusedAndStays(x, "pay in the loft", () -> x.pay(1, 1), 5);
        Check.days(x, 2);
        Check.refusedAndStays(x, "pay in FLIGHT", () -> x.pay(0, 1), 5);
        Check.days(x, 3);
        Check.refusedAndStays(x, "pay 6 of 5", () -> x.pay(1, 6), 5);
        Check.granted(x, "pay 5 of 5", () -> x.pay(1, 5), 0);
        Check.refused(x, "pay for one gone", () -> x.pay(1, 1), 5);
        GrudgeLoft y = Check.town(Check.TOWN);
        Check.days(y, 5);
        y.meet(0, 1);
        Check.refused(y, "pay for one that met", () -> y.pay(0, 1), 5);
    }

    // Promise 50, "6 (the house has fewer coins).": one fewer, just as many, none; 5 ahead of 6
    private static void payFewerCoins() {
        GrudgeLoft x = Check.town(POOR);
        Check.refusedAndStays(x, "pay(0, 5) of 4", () -> x.pay(0, 5), 6);
        Check.refused(x, "pay(0, 7) of 4, LEFT 6", () -> x.pay(0, 7), 5);
        Check.granted(x, "pay(0, 4) of 4", () -> x.pay(0, 4), 2);
        Check.due("coins of b", x.house(1, 1), 0);
        Check.refused(x, "pay(0, 1) of 0", () -> x.pay(0, 1), 6);
    }

    // Terms III, "ACTS: DAY, PAY for a bird (the house it is for), MEET.": a refused one isn't kept to be undone
    private static void payIsNoActIfRefused() {
        GrudgeLoft x = Check.town(Check.TOWN);
        x.pay(0, 1);
        x.pay(0, 0);
        x.pay(9, 1);
        x.meet(0, 2);
        x.meet(0, 0);
        Check.due("ACTS", x.size(9), 0);
        Check.refused(x, "undo()", x::undo, 6);
        GrudgeLoft y = Check.town(POOR);
        y.pay(0, 5);
        Check.due("ACTS of the poor", y.size(9), 0);
    }

    // Promise 51, "MEET: coins paid.": either way round; both are gone, LEFTS NOW count
    private static void meetAnswers() {
        GrudgeLoft x = Check.town(Check.TOWN);
        Check.granted(x, "meet(1, 0)", () -> x.meet(1, 0), 7);
        Check.due("birds()", x.birds(), 0b1100);
        Check.due("coins paid", x.size(8), 7);
        Check.due("ACTS", x.size(9), 1);
        GrudgeLoft y = Check.town(Check.TOWN);
        Check.days(y, 3);
        y.pay(0, 9);
        Check.granted(y, "meet(0, 1), 9 paid", () -> y.meet(0, 1), 2);
        Check.due("coins paid in all", y.size(8), 11);
    }

    // Terms II, "the house for which that with more LEFT is pays by how much it is more.": of the first, of the second
    private static void meetPaidByTheHouseOfThatWithMore() {
        GrudgeLoft x = Check.town(Check.TOWN);
        x.meet(0, 1);
        Check.due("bay pays", x.house(1, 1), 43);
        Check.due("ash doesn't", x.house(0, 1), 20);
        GrudgeLoft y = Check.town(Check.LOFT + "house a at 0 coins 9;house b at 0 coins 9;"
                + "bird p plain from a to b day 0 wrong 2;bird q plain from b to a day 0 wrong 6");
        Check.granted(y, "meet(0, 1), the second has more", () -> y.meet(0, 1), 4);
        Check.due("a pays", y.house(0, 1), 5);
        Check.due("b doesn't", y.house(1, 1), 9);
        GrudgeLoft z = Check.town(Check.TOWN);
        z.meet(1, 3);
        Check.due("bay pays for poe, not cot on which it'd SIT", z.house(1, 1), 49);
        z.undo();
        z.meet(3, 1);
        Check.due("bay pays for poe, named first", z.house(1, 1), 49);
        for (int first = 0; first < 2; first++) {
            GrudgeLoft now = Check.town(Check.TOWN);
            Check.days(now, 3);
            now.pay(0, 11);
            now.meet(first, 1 - first);
            Check.due("ash pays, pip has less LEFT NOW, " + first + " named first", now.house(0, 1), 16);
            Check.due("bay has paid 11, " + first + " named first", now.house(1, 1), 39);
        }
    }

    // Promise 51, "MEET: coins paid.": 0 of like LEFTS, though no house has any
    private static void meetForNothing() {
        GrudgeLoft x = Check.town(Check.LOFT + "house a at 0 coins 0;house b at 0 coins 0;"
                + "bird p plain from a to b day 30 wrong 6;bird q proud from b to a day 0 wrong 3");
        Check.granted(x, "meet(0, 1)", () -> x.meet(0, 1), 0);
        Check.due("all gone", x.birds(), 0);
        Check.due("ACTS", x.size(9), 1);
    }

    // Terms II, "MEET: two birds not gone": wherever they are, in the loft, in FLIGHT, SITTING
    private static void meetWhereverTheyAre() {
        for (int day : new int[] {0, 1, 3, 4, 9}) {
            GrudgeLoft x = Check.town(Check.TOWN);
            Check.days(x, day);
            Check.granted(x, "meet(0, 1), day " + day, () -> x.meet(0, 1), 7);
            Check.due("where the first one is", x.bird(0, 7), 3);
            Check.due("where the second one is", x.bird(1, 7), 3);
        }
    }

    // Promise 51, "NONE: 1 (unlike);": no TOWN, no such bird on either side, the same one
    private static void meetRefusedFirst() {
        GrudgeLoft none = new GrudgeLoft();
        Check.refused(none, "meet(0, 1), no town", () -> none.meet(0, 1), 1);
        GrudgeLoft x = Check.town(Check.TOWN);
        Check.refusedAndStays(x, "meet(0, 0)", () -> x.meet(0, 0), 1);
        for (int b : NO_BIRDS) {
            Check.refused(x, "meet(0, " + b + ")", () -> x.meet(0, b), 1);
            Check.refused(x, "meet(" + b + ", 0)", () -> x.meet(b, 0), 1);
        }
    }

    // Promise 51, "5 (they can't);": of one side, of other houses, one gone
    private static void meetCannot() {
        GrudgeLoft x = Check.town(Check.TOWN);
        Check.refusedAndStays(x, "meet(0, 3)", () -> x.meet(0, 3), 5);
        Check.refusedAndStays(x, "meet(0, 2)", () -> x.meet(0, 2), 5);
        x.meet(1, 3);
        Check.refusedAndStays(x, "meet of one gone", () -> x.meet(0, 1), 5);
        Check.refused(x, "meet of two gone", () -> x.meet(1, 3), 5);
    }

    // Promise 51, "6 (the house has fewer coins).": that which would pay; one fewer, just as many
    private static void meetFewerCoins() {
        GrudgeLoft x = Check.town(Check.LOFT + "house a at 0 coins 3;house b at 0 coins 9;"
                + "bird p plain from a to b day 0 wrong 2;bird q plain from b to a day 0 wrong 6");
        Check.refusedAndStays(x, "meet for 4 of 3", () -> x.meet(0, 1), 6);
        Check.refusedAndStays(x, "meet for 4 of 3, the other way round", () -> x.meet(1, 0), 6);
        x.pay(1, 1);
        Check.refused(x, "meet for 3 of 2", () -> x.meet(0, 1), 6);
        GrudgeLoft y = Check.town(Check.LOFT + "house a at 0 coins 4;house b at 0 coins 0;"
                + "bird p plain from a to b day 0 wrong 2;bird q plain from b to a day 0 wrong 6");
        Check.granted(y, "meet for 4 of 4", () -> y.meet(0, 1), 4);
        Check.due("coins of a", y.house(0, 1), 0);
    }

    // Promise 52, "UNDO: true;": a MEETING, coins, a day: all is as ahead of it
    private static void undoOfEachAct() {
        GrudgeLoft x = Check.town(Check.TOWN);
        Check.days(x, 3);
        String day3 = Check.told(x);
        x.day();
        String day4 = Check.told(x);
        x.pay(0, 12);
        String paid = Check.told(x);
        x.meet(1, 3);
        Check.granted(x, "undo of meet", x::undo);
        Check.due("all as ahead of meet", Check.told(x).equals(paid), true);
        Check.granted(x, "undo of pay", x::undo);
        Check.due("all as ahead of pay", Check.told(x).equals(day4), true);
        Check.granted(x, "undo of day", x::undo);
        Check.due("all as ahead of day", Check.told(x).equals(day3), true);
        Check.due("coins of bay", x.house(1, 1), 50);
        Check.due("WHITE of ash", x.house(0, 2), 1);
        Check.due("LEFT of pip", x.bird(0, 6), 12);
    }

    // Terms III, "UNDO: the latest": one after the other, down to the first
    private static void undoTheLatestFirst() {
        GrudgeLoft x = Check.town(Check.TOWN);
        Check.days(x, 3);
        x.pay(0, 1);
        x.pay(0, 2);
        int[] lefts = {11, 12, 12, 12, 12};
        int[] days = {3, 3, 2, 1, 0};
        for (int i = 0; i < lefts.length; i++) {
            Check.granted(x, "undo " + i, x::undo);
            Check.due("LEFT", x.bird(0, 6), lefts[i]);
            Check.due("the day", x.size(7), days[i]);
            Check.due("ACTS", x.size(9), 4 - i);
        }
    }

    // Terms III, "(16 are kept).": of 20 the latest 16 can be undone, not the 17th
    private static void undoSixteen() {
        GrudgeLoft x = Check.town(Check.TOWN);
        Check.days(x, 15);
        Check.due("ACTS, 15", x.size(9), 15);
        x.day();
        Check.due("ACTS, 16", x.size(9), 16);
        x.day();
        Check.due("ACTS, 17", x.size(9), 16);
        Check.days(x, 3);
        for (int i = 1; i <= 16; i++) {
            Check.granted(x, "undo " + i, x::undo);
            Check.due("the day", x.size(7), 20 - i);
            Check.due("ACTS", x.size(9), 16 - i);
        }
        Check.refusedAndStays(x, "undo 17", () -> x.undo() ? 1 : -1, 6);
        Check.due("the day", x.size(7), 4);
        Check.due("WHITE", x.house(0, 2), 3);
    }

    // Terms III, "UNDO: the latest (16 are kept).": ACTS behind an UNDO are kept as those ahead of it were
    private static void undoOnAndOn() {
        GrudgeLoft x = Check.town(Check.TOWN);
        int day = 0;
        int acts = 0;
        for (int round = 0; round < 12; round++) {
            Check.days(x, 5);
            day += 5;
            acts = Math.min(16, acts + 5);
            for (int i = 0; i < 3; i++) {
                Check.granted(x, "undo", x::undo);
            }
            day -= 3;
            acts -= 3;
            Check.due("the day", x.size(7), day);
            Check.due("ACTS", x.size(9), acts);
        }
        for (int i = 0; i < acts; i++) {
            Check.granted(x, "undo to the last", x::undo);
        }
        Check.due("the day at last", x.size(7), day - acts);
        Check.refused(x, "undo of nothing", x::undo, 6);
    }

    // Promise 52, "false: 6.": no TOWN, no ACTS yet, all undone
    private static void undoOfNothing() {
        GrudgeLoft none = new GrudgeLoft();
        Check.refused(none, "undo(), no town", none::undo, 6);
        GrudgeLoft x = Check.town(Check.TOWN);
        Check.refused(x, "undo(), no ACTS", x::undo, 6);
        x.day();
        Check.granted(x, "undo()", x::undo);
        Check.refused(x, "undo(), all undone", x::undo, 6);
        Check.due("the day", x.size(7), 0);
    }

    // Terms III, "ACTS: DAY, PAY for a bird (the house it is for), MEET.": an IMAGE, a feed, what is asked are none
    private static void onlyActsCanBeUndone() {
        GrudgeLoft x = Check.town(Check.TOWN);
        x.image();
        x.feed(0, 0, 0, 0, 0);
        x.peace();
        x.look();
        x.last(0);
        Check.due("ACTS", x.size(9), 0);
        Check.refused(x, "undo()", x::undo, 6);
        Check.due("IMAGES stay", x.size(10), 1);
        Check.due("bytes stay", x.size(11), 20);
    }

    // Promise 53, "An IMAGE: its number.": 0, 1, 2
    private static void imageNumbers() {
        GrudgeLoft x = Check.town(Check.TOWN);
        for (int i = 0; i < 3; i++) {
            Check.granted(x, "image()", x::image, i);
            Check.due("IMAGES", x.size(10), i + 1);
            x.day();
        }
    }

    // Promise 53, "NONE: 1 (no TOWN)": ahead of the first loft there's nothing to draw
    private static void imageRefused() {
        GrudgeLoft x = new GrudgeLoft();
        Check.refused(x, "image()", x::image, 1);
        Check.due("IMAGES", x.size(10), 0);
    }

    // Promise 53, "3.": a fourth one; those there are stay as they were
    private static void imageFull() {
        GrudgeLoft x = Check.town(Check.TOWN);
        for (int i = 0; i < 3; i++) {
            x.image();
            x.day();
        }
        Check.refusedAndStays(x, "image() 4", x::image, 3);
        Check.refused(x, "image() 5", x::image, 3);
        for (int i = 0; i < 3; i++) {
            int image = i;
            Check.granted(x, "back(" + i + ")", () -> x.back(image));
            Check.due("the day", x.size(7), i);
        }
    }

    // Terms III, "IMAGES: up to 3;": undoing makes no room, another loft does
    private static void imagesUpToThree() {
        GrudgeLoft x = Check.town(Check.TOWN);
        x.day();
        for (int i = 0; i < 3; i++) {
            Check.granted(x, "image()", x::image, i);
        }
        x.undo();
        Check.refused(x, "image(), undone", x::image, 3);
        Check.loft(x, Check.TOWN + "!");
        Check.refused(x, "image() behind a faulty loft", x::image, 3);
        Check.loft(x, Check.TOWN);
        for (int i = 0; i < 3; i++) {
            Check.granted(x, "image() of another TOWN", x::image, i);
        }
        Check.refused(x, "image() 4 of another TOWN", x::image, 3);
    }

    // Promise 53, "An IMAGE: its number.": what can be undone stays
    private static void imageChangesNothing() {
        GrudgeLoft x = Check.town(Check.TOWN);
        Check.days(x, 4);
        x.image();
        Check.due("ACTS", x.size(9), 4);
        Check.granted(x, "undo()", x::undo);
        Check.due("the day", x.size(7), 3);
        Check.due("IMAGES", x.size(10), 1);
    }

    // Promise 54, "All is as by an IMAGE": to a later one, too; what was done behind it is as if it hadn't been
    private static void backToEach() {
        GrudgeLoft x = Check.town(Check.TOWN);
        x.image();
        Check.days(x, 4);
        x.pay(0, 12);
        x.image();
        x.meet(1, 3);
        x.image();
        int[][] due = {{0, 0b1111, 0, 50, 0}, {4, 0b1110, 12, 38, 3}, {4, 0b0100, 13, 37, 3}};
        for (int image : new int[] {0, 2, 1, 1, 2, 0}) {
            x.day();
            Check.granted(x, "back(" + image + ")", () -> x.back(image));
            int[] got = {x.size(7), x.birds(), x.size(8), x.house(1, 1), x.house(0, 2)};
            for (int i = 0; i < got.length; i++) {
                Check.due("behind back(" + image + "): " + i, got[i], due[image][i]);
            }
        }
    }

    // Terms III, "gone back to one, nothing can be undone.": but what is done behind it
    private static void backUndoesNothing() {
        GrudgeLoft x = Check.town(Check.TOWN);
        Check.days(x, 4);
        x.image();
        Check.days(x, 2);
        x.back(0);
        Check.due("ACTS", x.size(9), 0);
        Check.refusedAndStays(x, "undo()", () -> x.undo() ? 1 : -1, 6);
        x.day();
        Check.due("ACTS behind a day", x.size(9), 1);
        Check.granted(x, "undo() of the day", x::undo);
        Check.due("the day", x.size(7), 4);
        Check.refused(x, "undo() of no more", x::undo, 6);
    }

    // Promise 54, "(all IMAGES stay)": those drawn behind it, too; there's no more room than ahead
    private static void backKeepsImages() {
        GrudgeLoft x = Check.town(Check.TOWN);
        for (int i = 0; i < 3; i++) {
            x.image();
            x.day();
        }
        x.back(0);
        Check.due("IMAGES", x.size(10), 3);
        Check.refused(x, "image()", x::image, 3);
        Check.granted(x, "back(2)", () -> x.back(2));
        Check.due("the day", x.size(7), 2);
    }

    // Promise 54, "false: 1.": no TOWN, no IMAGES, no such one; all stays
    private static void backRefused() {
        GrudgeLoft none = new GrudgeLoft();
        Check.refused(none, "back(0), no town", () -> none.back(0), 1);
        GrudgeLoft x = Check.town(Check.TOWN);
        Check.refused(x, "back(0), no IMAGES", () -> x.back(0), 1);
        x.image();
        x.day();
        for (int image : new int[] {-1, 1, 3, Integer.MAX_VALUE, Integer.MIN_VALUE}) {
            Check.refused(x, "back(" + image + ")", () -> x.back(image), 1);
        }
        Check.due("the day", x.size(7), 1);
        Check.due("ACTS", x.size(9), 1);
        for (int i = 0; i < 2; i++) {
            x.image();
        }
        Check.refused(x, "back(3)", () -> x.back(3), 1);
    }

    // Terms I, "up to 7)": of six houses and seven birds, all is acted on as on others, undone and gone back to
    private static void fullTown() {
        GrudgeLoft x = Check.town(Check.FULL);
        x.image();
        String first = Check.told(x);
        Check.days(x, 7);
        Check.granted(x, "pay(6, 1)", () -> x.pay(6, 1), 0);
        Check.granted(x, "pay(4, 3)", () -> x.pay(4, 3), 0);
        Check.due("coins of f", x.house(5, 1), 297);
        Check.granted(x, "meet(0, 3)", () -> x.meet(0, 3), 3);
        Check.granted(x, "day()", x::day, 3);
        x.undo();
        x.undo();
        x.undo();
        Check.due("coins of f, undone", x.house(5, 1), 300);
        Check.due("where m is, paid", x.bird(6, 7), 3);
        x.back(0);
        Check.due("IMAGES", x.size(10), 1);
        Check.due("WHITE of b", x.house(1, 2), 0);
        Check.due("birds()", x.birds(), 0b1111111);
        Check.due("all is as at first", Check.told(x).equals(first), true);
    }
}
