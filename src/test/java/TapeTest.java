/** Promises 1 and 2: a new object, THE TAPE; and its TOKENS. */
public final class TapeTest {
    private static final String TWO = Check.LOFT + "house a at 3 coins 4;house b at 7 coins 5";

    public static void main(String[] args) {
        newObject();
        newObjectRefuses();
        highestFirst();
        comeBehind();
        howMany();
        noneMoreThanNineHundred();
        fedAgain();
        feedHasNoNumber();
        nineHundredAreRead();
        blanks();
        onlyBlanksAreBlank();
        words();
        tooLongWords();
        wordsOfLikeBeginnings();
        notLetters();
        wholes();
        tooLongWholes();
        notDigits();
        nextToEachOther();
        singleSemicolons();
        Check.end("TapeTest");
    }

    // Promise 1, "No TOWN.": nothing is there of all that has a size, no FAULT, no TROUBLE
    private static void newObject() {
        GrudgeLoft x = new GrudgeLoft();
        for (int what = 0; what <= 11; what++) {
            Check.due("new: size(" + what + ")", x.size(what), 0);
        }
        Check.due("new: trouble()", x.trouble(), 0);
        Check.due("new: fault()", x.fault(), 0);
        Check.due("new: where()", x.where(), -1);
    }

    // Promise 1, "No TOWN.": what needs one is refused
    private static void newObjectRefuses() {
        GrudgeLoft x = new GrudgeLoft();
        Check.due("new: birds()", x.birds(), -1);
        Check.due("new: birds(): trouble", x.trouble(), 1);
        Check.due("new: house(0, 0)", x.house(0, 0), -1);
        Check.due("new: bird(0, 0)", x.bird(0, 0), -1);
        Check.due("new: day()", x.day(), -1);
    }

    // Promise 2, "Twenty bytes come behind THE TAPE, of each number the highest first": each of the twenty places
    private static void highestFirst() {
        for (int at = 0; at < 20; at++) {
            int[] five = new int[5];
            java.util.Arrays.fill(five, 0x20202020);
            five[at / 4] ^= 0xDF << 24 - 8 * (at % 4);
            GrudgeLoft x = new GrudgeLoft();
            Check.due("feed", x.feed(five[0], five[1], five[2], five[3], five[4]), 20);
            Check.due("loft, a byte of 255 at " + at, x.loft(20), -1);
            Check.due("where, a byte of 255 at " + at, x.where(), at);
        }
    }

    // Promise 2, "Twenty bytes come behind THE TAPE": those of the second feed follow those of the first
    private static void comeBehind() {
        GrudgeLoft x = new GrudgeLoft();
        for (int i = 0; i < 3; i++) {
            x.feed(0x20202020, 0x20202020, 0x20202020, 0x20202020, 0x20202020);
        }
        x.feed(Integer.MIN_VALUE, 0, 0, 0, 0);
        Check.due("loft of 80", x.loft(80), -1);
        Check.due("where, the first byte of the fourth feed", x.where(), 60);
    }

    // Promise 2, "how many it has": twenty more each time, up to 900
    private static void howMany() {
        GrudgeLoft x = new GrudgeLoft();
        for (int i = 1; i <= 45; i++) {
            Check.due("feed " + i, x.feed(i, -i, 0, 0, 0), 20 * i);
            Check.due("size(11) behind feed " + i, x.size(11), 20 * i);
        }
    }

    // Promise 2, "NONE, and none comes, if there would be more than 900.": feed 46, and what stood there stays
    private static void noneMoreThanNineHundred() {
        GrudgeLoft x = new GrudgeLoft();
        Check.feed(x, padded(TWO, "", 900));
        Check.due("bytes ahead", x.size(11), 900);
        for (int i = 0; i < 3; i++) {
            Check.due("feed of more than 900", x.feed(-1, -1, -1, -1, -1), -1);
            Check.due("bytes behind it", x.size(11), 900);
        }
        Check.due("loft(901)", x.loft(901), -1);
        Check.due("loft(900), nothing of it is changed", x.loft(900), 2);
    }

    // Promise 2, "NONE, and none comes, if there would be more than 900.": there's room again behind a loft
    private static void fedAgain() {
        GrudgeLoft x = new GrudgeLoft();
        Check.feed(x, padded(TWO, "", 900));
        x.loft(900);
        Check.due("feed behind a sound loft", x.feed(0, 0, 0, 0, 0), 20);
        x.loft(20);
        Check.due("feed behind a faulty loft", x.feed(0, 0, 0, 0, 0), 20);
    }

    // Terms IV, "(those of which a number is told here)": of feed() none is, so it leaves TROUBLE as it was
    private static void feedHasNoNumber() {
        GrudgeLoft x = new GrudgeLoft();
        x.undo();
        Check.due("feed", x.feed(0, 0, 0, 0, 0), 20);
        Check.due("TROUBLE behind a feed", x.trouble(), 6);
        Check.feed(x, padded("", "", 880));
        Check.due("refused feed", x.feed(0, 0, 0, 0, 0), -1);
        Check.due("TROUBLE behind a refused feed", x.trouble(), 6);
        x.loft(0);
        Check.feed(x, padded(TWO, "", 900));
        x.loft(900);
        Check.feed(x, padded("", "", 900));
        x.feed(0, 0, 0, 0, 0);
        Check.due("TROUBLE 0 stays as well", x.trouble(), 0);
    }

    // Terms I, "(THE TAPE has 900 bytes;": the last one is read
    private static void nineHundredAreRead() {
        GrudgeLoft x = new GrudgeLoft();
        Check.feed(x, padded(TWO + ";house c at 9 coins ", "123", 900));
        Check.due("loft(900)", x.loft(900), 3);
        Check.due("coins of the last bytes", x.house(2, 1), 123);
        Check.feed(x, padded(TWO, "!", 900));
        Check.due("loft(900), the last byte is a strange one", x.loft(900), -1);
        Check.due("where", x.where(), 899);
    }

    private static String padded(String ahead, String behind, int length) {
        StringBuilder text = new StringBuilder(ahead);
        while (text.length() + behind.length() < length) {
            text.append(' ');
        }
        return text.append(behind).toString();
    }

    // Terms I, "blanks, 32, part TOKENS and mean nothing else": none, one, many; ahead, behind, round a ;
    private static void blanks() {
        Check.sound("loft wings 1 hawks 0 storm 0;house a at 0 coins 0;house b at 0 coins 0", 2);
        Check.sound("   loft   wings 1   hawks 0  storm 0  ;  house  a  at  0  coins  0  ;house b at 0 coins 0   ", 2);
        Check.faulty(1, "^lo ft wings 1 hawks 0 storm 0");
        Check.faulty(1, "loft wings 1 ^2 hawks 0 storm 0");
        Check.faulty(1, "loft ^win gs 12 hawks 0 storm 0");
    }

    // Terms I, "blanks, 32, part TOKENS and mean nothing else": no other byte is a blank
    private static void onlyBlanksAreBlank() {
        for (int sign : new int[] {0, 9, 10, 13, 31, 33, 95, 127, 128, 160, 255}) {
            Check.faulty(1, "loft^" + (char) sign + "wings 1 hawks 0 storm 0");
            Check.faulty(1, "^" + (char) sign);
            Check.faulty(1, TWO + "^" + (char) sign);
        }
    }

    // Terms I, "WORDS of 1 to 8 small letters that stand together": of 1, of 8, a to z
    private static void words() {
        Check.sound(Check.LOFT + "house a at 0 coins 0;house z at 0 coins 0", 2);
        Check.sound(Check.LOFT + "house abcdefgh at 0 coins 0;house zzzzzzzz at 0 coins 0", 2);
        Check.sound(Check.LOFT + "house ijklmnop at 0 coins 0;house qrstuvwx at 0 coins 0;"
                + "house yz at 0 coins 0;bird p plain from ijklmnop to qrstuvwx day 0 wrong 1", 3);
    }

    // Terms I, "WORDS of 1 to 8 small letters that stand together": 9 letters are no WORD, wherever they stand
    private static void tooLongWords() {
        Check.faulty(1, Check.LOFT + "house ^abcdefghi at 0 coins 0");
        Check.faulty(1, "^loftaaaaa wings 1 hawks 0 storm 0");
        Check.faulty(1, Check.LOFT + "house abcdefgh at 0 coins 0;bird x plain from ^abcdefghi to b day 0 wrong 1");
        Check.faulty(1, Check.LOFT + "^househous a at 0 coins 0");
        Check.faulty(1, Check.LOFT + "house ^abcdefghijklmnopqrstuvwxyz at 0 coins 0");
    }

    // Terms I, "NAMES are WORDS": of like beginnings, or of like letters but one, they are other ones
    private static void wordsOfLikeBeginnings() {
        Check.sound(Check.LOFT + "house a at 0 coins 0;house aa at 0 coins 0;house aaa at 0 coins 0;"
                + "house aaaaaaaa at 0 coins 0;house aaaaaaab at 0 coins 0;house baaaaaaa at 0 coins 0", 6);
        Check.sound(Check.LOFT + "house lofts at 0 coins 0;house hous at 0 coins 0;house birds at 0 coins 0;"
                + "house see at 0 coins 0;house astray at 0 coins 0;house oft at 0 coins 0", 6);
        Check.faulty(1, "^lof wings 1 hawks 0 storm 0");
        Check.faulty(1, "loft ^wing 1 hawks 0 storm 0");
        Check.faulty(1, "loft ^wingss 1 hawks 0 storm 0");
    }

    // Terms I, "small letters": what stands next to them among the signs is none, nor are great ones
    private static void notLetters() {
        for (char sign : new char[] {'`', '{', 'A', 'Z', '@', '[', (char) ('a' + 128), (char) ('z' + 128)}) {
            Check.faulty(1, Check.LOFT + "house ^" + sign + " at 0 coins 0");
            Check.faulty(1, Check.LOFT + "house a^" + sign + " at 0 coins 0");
        }
        Check.faulty(1, "^Loft wings 1");
    }

    // Terms I, "WHOLES of 1 to 3 digits that do": of 1, 2, 3; 0s ahead of it change nothing
    private static void wholes() {
        GrudgeLoft x = Check.town("loft wings 007 hawks 09 storm 100;house a at 0 coins 000;house b at 99 coins 300");
        int[] due = {7, 9, 100, 2};
        for (int what = 0; what < due.length; what++) {
            Check.due("size(" + what + ")", x.size(what), due[what]);
        }
        Check.due("coins of 000", x.house(0, 1), 0);
        Check.due("place of 99", x.house(1, 0), 99);
        Check.due("coins of 300", x.house(1, 1), 300);
    }

    // Terms I, "WHOLES of 1 to 3 digits that do": 4 digits are no WHOLE, though they'd be in bounds
    private static void tooLongWholes() {
        Check.faulty(1, "loft wings ^0001 hawks 0 storm 0");
        Check.faulty(1, "loft wings ^1000 hawks 0 storm 0");
        Check.faulty(1, "loft wings 1 hawks ^0000 storm 0");
        Check.faulty(1, Check.LOFT + "house a at 0 coins ^0000");
        Check.faulty(1, Check.LOFT + "house a at 0 coins ^99999999999999999999999999");
    }

    // Terms I, "digits": what stands next to them among the signs is none, nor is a minus
    private static void notDigits() {
        for (char sign : new char[] {'/', ':', '-', '+', '.', ',', (char) ('0' + 128)}) {
            Check.faulty(1, "loft wings ^" + sign + "1 hawks 0 storm 0");
            Check.faulty(1, "loft wings 1^" + sign + " hawks 0 storm 0");
        }
    }

    // Terms I, "small letters that stand together, WHOLES of 1 to 3 digits that do": letters next to digits part
    private static void nextToEachOther() {
        Check.sound("loft wings1hawks0storm0;house a at0coins0;house b at9coins9", 2);
        Check.faulty(1, Check.LOFT + "house a^1 at 0 coins 0");
        Check.faulty(1, "loft wings 1 hawks 0 storm 0^x");
    }

    // Terms I, "single ones of ;": two that stand together are two TOKENS
    private static void singleSemicolons() {
        Check.faulty(1, "loft wings 1 hawks 0 storm 0;^;house a at 0 coins 0");
        Check.faulty(1, "loft wings 1 hawks 0 storm 0; ^;house a at 0 coins 0");
        Check.sound("loft wings 1 hawks 0 storm 0;house a at 0 coins 0 ; house b at 0 coins 0", 2);
    }
}
