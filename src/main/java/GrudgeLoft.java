import java.util.NoSuchElementException;

/** Pigeons that carry grudges from house to house; ../shared/DOC.md tells the promises by number. */
public final class GrudgeLoft {
    public static final int NONE = -1;

    private static final int NEVER = -2;

    private static final int NO_SUCH = 1;
    private static final int BAD_NUMBER = 2;
    private static final int NO_ROOM = 3;
    private static final int FAULTY = 4;
    private static final int NOT_SO = 5;
    private static final int THERE_IS_NONE = 6;

    private static final int DAYS_AHEAD = 60;
    private static final int LAST_DAY = 999;
    private static final int MOST_COINS = 999;
    private static final int MOST_WORTH = 9;
    private static final int HAWK_DAYS = 8;
    private static final int MOST_SEED = 65_536;

    private final Reader reader;
    private final Present now;
    private final History history;
    private final Amends amends;
    private final Rings rings;
    private final Storms storms;
    private Town town;
    private int faultNumber;
    private int faultPlace;
    private int refusal;

    public GrudgeLoft() {
        reader = new Reader();
        now = new Present();
        history = new History();
        amends = new Amends();
        rings = new Rings();
        storms = new Storms();
        town = new Town();
    }

    // ---- the town

    public int feed(int a, int b, int c, int d, int e) {
        Tape tape = reader.tape;
        if (tape.length + Tape.FED_AT_ONCE > Tape.BYTES) {
            return NONE;
        }
        tape.put(a);
        tape.put(b);
        tape.put(c);
        tape.put(d);
        tape.put(e);
        return tape.length;
    }

    public int loft(int n) {
        if (n < 0 || n > reader.tape.length) {
            return refuse(BAD_NUMBER);
        }
        reader.tape.length = 0;
        boolean sound = reader.read(n);
        faultNumber = reader.number;
        faultPlace = reader.place;
        if (!sound) {
            return refuse(FAULTY);
        }
        // the two towns change places, so that a faulty text never touches the one that stands
        Town told = reader.draft;
        reader.draft = town;
        town = told;
        now.start(town);
        history.forget();
        return grant(town.houses);
    }

    public int fault() {
        return faultNumber;
    }

    public int where() {
        return refusal == FAULTY ? faultPlace : NONE;
    }

    // ---- now

    public int house(int h, int what) {
        if (!isHouse(h)) {
            return refuse(NO_SUCH);
        }
        switch (what) {
            case 0:
                return grant(town.place[h]);
            case 1:
                return grant(now.coins[h]);
            case 2:
                return grant(now.white[h]);
            case 3:
                return grant(now.sitters(town, h, now.date));
            case 4:
                return grant(now.birdsFor(town, h));
            default:
                return refuse(NO_SUCH);
        }
    }

    public int bird(int b, int what) {
        if (!isBird(b)) {
            return refuse(NO_SUCH);
        }
        switch (what) {
            case 0:
                return grant(town.kind[b]);
            case 1:
                return grant(town.from[b]);
            case 2:
                return grant(town.target[b]);
            case 3:
                return grant(town.sill[b]);
            case 4:
                return grant(town.flight[b]);
            case 5:
                return grant(town.need[b]);
            case 6:
                return grant(now.lacking(town, b));
            case 7:
                return grant(now.stateOn(town, b, now.date));
            default:
                return refuse(NO_SUCH);
        }
    }

    public int apart(int h, int other) {
        if (!areTwoHouses(h, other)) {
            return refuse(NO_SUCH);
        }
        return grant(town.daysApart(h, other));
    }

    public int birds() {
        return hasTown() ? grant(now.present(town)) : refuse(NO_SUCH);
    }

    public int fullest() {
        return hasTown() ? grant(now.fullestHouse(town)) : refuse(NO_SUCH);
    }

    public int clean() {
        return hasTown() ? grant(now.housesWithoutGrudge(town)) : refuse(NO_SUCH);
    }

    // ---- days to come, nothing being paid, none meeting

    public int whereIn(int b, int n) {
        if (!isBird(b)) {
            return refuse(NO_SUCH);
        }
        if (!isWithin(n, 0, DAYS_AHEAD)) {
            return refuse(BAD_NUMBER);
        }
        return grant(now.stateOn(town, b, now.date + n));
    }

    public int sitIn(int h, int n) {
        if (!isHouse(h)) {
            return refuse(NO_SUCH);
        }
        if (!isWithin(n, 0, DAYS_AHEAD)) {
            return refuse(BAD_NUMBER);
        }
        return grant(Integer.bitCount(now.sitters(town, h, now.date + n)));
    }

    public int whiteIn(int h, int n) {
        if (!isHouse(h)) {
            return refuse(NO_SUCH);
        }
        if (!isWithin(n, 0, DAYS_AHEAD)) {
            return refuse(BAD_NUMBER);
        }
        return grant(now.whiteBehind(town, h, n));
    }

    public int sitsIn(int b) {
        if (!isBird(b)) {
            return refuse(NO_SUCH);
        }
        return grant(now.daysTillSitting(town, b, DAYS_AHEAD));
    }

    public int worstDay() {
        return hasTown() ? grant(now.mostCrowded(town, DAYS_AHEAD)) : refuse(NO_SUCH);
    }

    public int whitest(int n) {
        if (!hasTown()) {
            return refuse(NO_SUCH);
        }
        if (!isWithin(n, 0, DAYS_AHEAD)) {
            return refuse(BAD_NUMBER);
        }
        return grant(now.whitestHouse(town, n));
    }

    public int allSit() {
        return hasTown() ? grant(now.daysTillAllSit(town, DAYS_AHEAD)) : refuse(NO_SUCH);
    }

    // ---- amends

    public int mayMeet(int b) {
        return isBird(b) ? grant(amends.partners(town, now, b)) : refuse(NO_SUCH);
    }

    public int meeting(int b, int other) {
        if (!areTwoBirds(b, other)) {
            return refuse(NO_SUCH);
        }
        return grant(now.canPair(town, b, other) ? now.pairCost(town, b, other) : NEVER);
    }

    public int owes(int h) {
        return isHouse(h) ? grant(now.debt(town, h)) : refuse(NO_SUCH);
    }

    public int poor() {
        return hasTown() ? grant(now.housesInDebt(town)) : refuse(NO_SUCH);
    }

    public int peace() {
        return hasTown() ? grant(amends.cheapest(town, now)) : refuse(NO_SUCH);
    }

    public int mate(int b) {
        return isBird(b) ? grant(amends.partnerOf(town, now, b)) : refuse(NO_SUCH);
    }

    public int peaces() {
        return hasTown() ? grant(amends.cheapestRows(town, now)) : refuse(NO_SUCH);
    }

    public int most(int coins) {
        if (!hasTown()) {
            return refuse(NO_SUCH);
        }
        if (!isWithin(coins, 0, MOST_COINS)) {
            return refuse(BAD_NUMBER);
        }
        return grant(amends.largestSet(town, now, now.present(town), coins));
    }

    public int coinsFor(int many) {
        if (!hasTown()) {
            return refuse(NO_SUCH);
        }
        if (!isWithin(many, 0, Town.MOST_BIRDS)) {
            return refuse(BAD_NUMBER);
        }
        return grant(amends.cheapestSet(town, now, many));
    }

    public int ring(int h) {
        return isHouse(h) ? grant(rings.shortest(town, now, h)) : refuse(NO_SUCH);
    }

    public int ringAt(int h, int i) {
        if (!isHouse(h)) {
            return refuse(NO_SUCH);
        }
        int member = rings.memberAt(town, now, h, i);
        return member < 0 ? refuse(NO_SUCH) : grant(member);
    }

    public int payable(int h) {
        if (!isHouse(h)) {
            return refuse(NO_SUCH);
        }
        return grant(amends.largestSet(town, now, now.birdsFor(town, h), now.coins[h]));
    }

    public int bestMeeting() {
        return hasTown() ? grant(amends.mostSparing(town, now)) : refuse(NO_SUCH);
    }

    public int feud(int h, int other) {
        if (!areTwoHouses(h, other)) {
            return refuse(NO_SUCH);
        }
        return grant(now.grudges(town, h, other));
    }

    public int quiet(int h) {
        return isHouse(h) ? grant(now.emptyDays(town, h, DAYS_AHEAD)) : refuse(NO_SUCH);
    }

    // ---- strays

    public int fits() {
        return hasTown() ? grant(town.strays.rows) : refuse(NO_SUCH);
    }

    public int fitAt(int i, int s) {
        if (!isStray(s) || i < 0 || i >= town.strays.rows) {
            return refuse(NO_SUCH);
        }
        return grant(town.strays.guess(town.strays.row[i], s));
    }

    public int could(int s) {
        return isStray(s) ? grant(town.strays.guesses(s)) : refuse(NO_SUCH);
    }

    public int surely(int s) {
        return isStray(s) ? grant(town.strays.onlyGuess(s)) : refuse(NO_SUCH);
    }

    public int look() {
        return hasTown() ? grant(town.strays.bestSpot(town)) : refuse(NO_SUCH);
    }

    public int lookLeaves() {
        return hasTown() ? grant(town.strays.bestSpotLeaves(town)) : refuse(NO_SUCH);
    }

    public int judge() {
        return hasTown() ? grant(town.strays.firstTooFew()) : refuse(NO_SUCH);
    }

    // ---- two houses

    public int sends(int worth, boolean one, boolean other, boolean ofOther) {
        if (!hasTown()) {
            return refuse(NO_SUCH);
        }
        if (!isWithin(worth, 0, MOST_WORTH)) {
            return refuse(BAD_NUMBER);
        }
        return grant(ofOther ? gain(worth, other, one) : gain(worth, one, other));
    }

    public int rests(int worth) {
        if (!hasTown()) {
            return refuse(NO_SUCH);
        }
        if (!isWithin(worth, 0, MOST_WORTH)) {
            return refuse(BAD_NUMBER);
        }
        int count = 0;
        for (int pair = 0; pair < 4; pair++) {
            if (isRest(worth, pair)) {
                count++;
            }
        }
        return grant(count);
    }

    public int rest(int worth) {
        if (!hasTown()) {
            return refuse(NO_SUCH);
        }
        if (!isWithin(worth, 0, MOST_WORTH)) {
            return refuse(BAD_NUMBER);
        }
        for (int pair = 0; pair < 4; pair++) {
            if (isRest(worth, pair)) {
                return grant((oneSends(pair) ? 10 : 0) + (otherSends(pair) ? 1 : 0));
            }
        }
        return grant(NEVER);
    }

    // ---- hawks, storms

    public long safe(int b, int n, boolean lower) {
        if (!isBird(b)) {
            return refuse(NO_SUCH);
        }
        if (!isWithin(n, 0, HAWK_DAYS)) {
            return refuse(BAD_NUMBER);
        }
        if (!now.sitsOn(town, b, now.date)) {
            return refuse(NOT_SO);
        }
        return grantLong(Hawks.untaken(town.hawks, n, lower));
    }

    public long left(int h, int many, boolean lower) {
        if (!isHouse(h)) {
            return refuse(NO_SUCH);
        }
        if (!isWithin(many, 0, Town.MOST_BIRDS)) {
            return refuse(BAD_NUMBER);
        }
        int sitting = Integer.bitCount(now.sitters(town, h, now.date));
        return grantLong(Hawks.untakenOf(town.hawks, sitting, many, lower));
    }

    public long stays(int n, boolean lower) {
        if (!hasTown()) {
            return refuse(NO_SUCH);
        }
        if (!isWithin(n, 0, HAWK_DAYS)) {
            return refuse(BAD_NUMBER);
        }
        return grantLong(Hawks.meanDays(town.hawks, n, lower));
    }

    public int aloft(int b, int seed) {
        if (!isBird(b)) {
            return refuse(NO_SUCH);
        }
        if (!isWithin(seed, 0, MOST_SEED)) {
            return refuse(BAD_NUMBER);
        }
        storms.begin(seed);
        return grant(storms.daysAloft(town.flight[b], town.storm));
    }

    public int last(int seed) {
        if (!hasTown()) {
            return refuse(NO_SUCH);
        }
        if (!isWithin(seed, 0, MOST_SEED)) {
            return refuse(BAD_NUMBER);
        }
        storms.begin(seed);
        return grant(storms.latestBird(town, now.present(town)));
    }

    // ---- acts

    public int day() {
        if (!hasTown()) {
            return refuse(NO_SUCH);
        }
        if (now.date >= LAST_DAY) {
            return refuse(NO_ROOM);
        }
        history.keep(now);
        return grant(now.passDay(town));
    }

    public int pay(int b, int coins) {
        if (!isBird(b)) {
            return refuse(NO_SUCH);
        }
        if (!isWithin(coins, 1, MOST_COINS)) {
            return refuse(BAD_NUMBER);
        }
        if (!now.sitsOn(town, b, now.date) || now.lacking(town, b) < coins) {
            return refuse(NOT_SO);
        }
        if (now.coins[town.target[b]] < coins) {
            return refuse(THERE_IS_NONE);
        }
        history.keep(now);
        now.payFor(town, b, coins);
        return grant(now.lacking(town, b));
    }

    public int meet(int b, int other) {
        if (!areTwoBirds(b, other)) {
            return refuse(NO_SUCH);
        }
        if (!now.canPair(town, b, other)) {
            return refuse(NOT_SO);
        }
        int cost = now.pairCost(town, b, other);
        if (now.coins[now.pairPayer(town, b, other)] < cost) {
            return refuse(THERE_IS_NONE);
        }
        history.keep(now);
        now.pair(town, b, other);
        return grant(cost);
    }

    public boolean undo() {
        if (!history.takeBack(now)) {
            refusal = THERE_IS_NONE;
            return false;
        }
        refusal = 0;
        return true;
    }

    public int image() {
        if (!hasTown()) {
            return refuse(NO_SUCH);
        }
        int number = history.draw(now);
        return number < 0 ? refuse(NO_ROOM) : grant(number);
    }

    public boolean back(int image) {
        if (!history.restore(now, image)) {
            refusal = NO_SUCH;
            return false;
        }
        refusal = 0;
        return true;
    }

    // ---- what is told

    public int led(int i) throws NoSuchElementException {
        int seen = 0;
        for (int b = 0; b < town.birds; b++) {
            if (now.isGone(b)) {
                if (seen == i) {
                    return b;
                }
                seen++;
            }
        }
        throw new NoSuchElementException("no such bird is gone");
    }

    public int size(int what) {
        switch (what) {
            case 0:
                return town.wings;
            case 1:
                return town.hawks;
            case 2:
                return town.storm;
            case 3:
                return town.houses;
            case 4:
                return town.birds;
            case 5:
                return town.strays.count;
            case 6:
                return town.strays.seen;
            case 7:
                return now.date;
            case 8:
                return now.spent;
            case 9:
                return history.acts;
            case 10:
                return history.images;
            case 11:
                return reader.tape.length;
            default:
                return NONE;
        }
    }

    public int trouble() {
        return refusal;
    }

    private int refuse(int why) {
        refusal = why;
        return NONE;
    }

    private int grant(int answer) {
        refusal = 0;
        return answer;
    }

    private long grantLong(long answer) {
        refusal = 0;
        return answer;
    }

    private static boolean isWithin(int number, int least, int most) {
        return number >= least && number <= most;
    }

    private boolean hasTown() {
        return town.houses > 0;
    }

    private boolean isHouse(int h) {
        return h >= 0 && h < town.houses;
    }

    private boolean areTwoHouses(int h, int other) {
        return isHouse(h) && isHouse(other) && h != other;
    }

    private boolean isBird(int b) {
        return b >= 0 && b < town.birds;
    }

    private boolean areTwoBirds(int b, int other) {
        return isBird(b) && isBird(other) && b != other;
    }

    private boolean isStray(int s) {
        return s >= 0 && s < town.strays.count;
    }

    // The four pairs of two houses are numbered in the order in which a first REST is looked for.
    private static boolean oneSends(int pair) {
        return (pair & 2) != 0;
    }

    private static boolean otherSends(int pair) {
        return (pair & 1) != 0;
    }

    private static int gain(int worth, boolean own, boolean others) {
        if (own) {
            return others ? 1 : worth;
        }
        return others ? 0 : 3;
    }

    private static boolean isRest(int worth, int pair) {
        boolean one = oneSends(pair);
        boolean other = otherSends(pair);
        return gain(worth, !one, other) <= gain(worth, one, other)
                && gain(worth, !other, one) <= gain(worth, other, one);
    }

    /** The fed bytes, and the TOKEN among them that is being read. */
    private static final class Tape {
        static final int BYTES = 900;
        static final int FED_AT_ONCE = 20;

        static final int END = 0;
        static final int WORD = 1;
        static final int WHOLE = 2;
        static final int SEMICOLON = 3;
        static final int NO_TOKEN = 4;

        private static final int MOST_LETTERS = 8;
        private static final int MOST_DIGITS = 3;
        // the lowest five bits of a small letter are 1 to 26
        private static final int LETTER_BITS = 5;
        private static final int LETTER_MASK = 31;

        private final byte[] bytes = new byte[BYTES];
        private int length;
        private int end;
        private int start;
        private int behind;
        private int sort;
        private int whole;
        private long word;

        void put(int number) {
            for (int shift = 24; shift >= 0 && length < BYTES; shift -= 8) {
                bytes[length] = (byte) (number >> shift);
                length++;
            }
        }

        void begin(int n) {
            end = Math.min(n, BYTES);
            behind = 0;
            step();
        }

        void step() {
            start = behind;
            while (start < end && bytes[start] == ' ') {
                start++;
            }
            sort = start < end ? sortOf(bytes[start]) : END;
            word = 0;
            whole = 0;
            behind = Math.min(start + 1, end);
            if (sort == WORD || sort == WHOLE) {
                takeRun();
            }
        }

        // A word of 8 letters of 5 bits each is one number: no texts need to be made or kept.
        private void takeRun() {
            behind = start;
            while (behind < end && sortOf(bytes[behind]) == sort) {
                word = word << LETTER_BITS | (bytes[behind] & LETTER_MASK);
                whole = whole * 10 + (bytes[behind] - '0');
                behind++;
            }
            if (behind - start > (sort == WORD ? MOST_LETTERS : MOST_DIGITS)) {
                sort = NO_TOKEN;
            }
        }

        private static int sortOf(byte sign) {
            if (sign >= 'a' && sign <= 'z') {
                return WORD;
            }
            if (sign >= '0' && sign <= '9') {
                return WHOLE;
            }
            return sign == ';' ? SEMICOLON : NO_TOKEN;
        }

        boolean spells(String text) {
            if (sort != WORD) {
                return false;
            }
            long spelt = 0;
            for (int i = 0; i < text.length(); i++) {
                spelt = spelt << LETTER_BITS | (text.charAt(i) & LETTER_MASK);
            }
            return spelt == word;
        }

        boolean isName() {
            return sort == WORD && !spells("loft") && !spells("house") && !spells("bird")
                    && !spells("stray") && !spells("seen");
        }
    }

    /** Reads the TEXT of a TOWN into a draft, up to its first FAULT. */
    private static final class Reader {
        private static final int FORM = 1;
        private static final int UNTOLD = 2;
        private static final int AGAIN = 3;
        private static final int OUT_OF_BOUNDS = 4;
        private static final int MANY = 5;
        private static final int LACKS = 6;

        private static final int LEAST_HOUSES = 2;
        private static final int MOST_NAMES = Town.MOST_HOUSES + Town.MOST_BIRDS + Strays.MOST_STRAYS;
        private static final int LATEST_DAY = 30;

        private final Tape tape = new Tape();
        private final long[] name = new long[MOST_NAMES];
        private final int[] houseNamed = new int[MOST_NAMES];
        private int names;
        private boolean lofted;
        private int value;
        private int number;
        private int place;
        private Town draft = new Town();

        boolean read(int n) {
            number = 0;
            place = 0;
            names = 0;
            lofted = false;
            draft.clear();
            tape.begin(n);
            boolean sound = readLine();
            for (int i = 0; i < Tape.BYTES && sound && tape.sort == Tape.SEMICOLON; i++) {
                tape.step();
                sound = readLine();
            }
            if (!sound) {
                return false;
            }
            if (tape.sort != Tape.END) {
                return fail(FORM);
            }
            if (draft.houses < LEAST_HOUSES) {
                return fail(LACKS);
            }
            draft.settle();
            return true;
        }

        // Every FAULT is at the TOKEN that is being read: each is looked for before the next step.
        private boolean fail(int why) {
            number = why;
            place = tape.start;
            return false;
        }

        private boolean readLine() {
            if (tape.spells("loft")) {
                return lofted ? fail(AGAIN) : readLoft();
            }
            if (tape.spells("house")) {
                return mayTell(draft.houses, Town.MOST_HOUSES) && readHouse();
            }
            if (tape.spells("bird")) {
                return mayTell(draft.birds, Town.MOST_BIRDS) && readBird();
            }
            if (tape.spells("stray")) {
                return mayTell(draft.strays.count, Strays.MOST_STRAYS) && readStray();
            }
            if (tape.spells("seen")) {
                return mayTell(draft.strays.seen, Strays.MOST_SEEN) && readSeen();
            }
            return fail(FORM);
        }

        private boolean mayTell(int told, int most) {
            if (!lofted) {
                return fail(LACKS);
            }
            return told < most || fail(MANY);
        }

        private boolean readLoft() {
            tape.step();
            if (!takeNumber("wings", 1, 50)) {
                return false;
            }
            draft.wings = value;
            if (!takeNumber("hawks", 0, 100)) {
                return false;
            }
            draft.hawks = value;
            if (!takeNumber("storm", 0, 100)) {
                return false;
            }
            draft.storm = value;
            lofted = true;
            return true;
        }

        private boolean readHouse() {
            int h = draft.houses;
            tape.step();
            if (!takeNewName(h) || !takeNumber("at", 0, 99)) {
                return false;
            }
            draft.place[h] = value;
            if (!takeNumber("coins", 0, 300)) {
                return false;
            }
            draft.coins[h] = value;
            draft.houses++;
            return true;
        }

        private boolean readBird() {
            int b = draft.birds;
            tape.step();
            if (!takeNewName(NONE) || !takeKind()) {
                return false;
            }
            draft.kind[b] = value;
            if (!takeWord("from") || !takeHouse(NONE)) {
                return false;
            }
            draft.from[b] = value;
            if (!takeWord("to") || !takeHouse(draft.from[b])) {
                return false;
            }
            draft.target[b] = value;
            if (!takeNumber("day", 0, LATEST_DAY)) {
                return false;
            }
            draft.letGo[b] = value;
            if (!takeNumber("wrong", 1, 60)) {
                return false;
            }
            draft.need[b] = Town.needBy(draft.kind[b], value);
            draft.birds++;
            return true;
        }

        private boolean readStray() {
            int s = draft.strays.count;
            tape.step();
            if (!takeNewName(NONE) || !takeWord("from") || !takeHouse(NONE)) {
                return false;
            }
            draft.strays.from[s] = value;
            if (!takeNumber("day", 0, LATEST_DAY)) {
                return false;
            }
            draft.strays.letGo[s] = value;
            draft.strays.count++;
            return true;
        }

        private boolean readSeen() {
            int i = draft.strays.seen;
            tape.step();
            if (!takeHouse(NONE)) {
                return false;
            }
            int h = value;
            if (!takeWord("day") || !isNumber(0, LATEST_DAY)) {
                return false;
            }
            if (draft.strays.wasSeen(h, tape.whole)) {
                return fail(AGAIN);
            }
            draft.strays.seenHouse[i] = h;
            draft.strays.seenDay[i] = tape.whole;
            tape.step();
            if (!takeNumber("birds", 0, 9)) {
                return false;
            }
            draft.strays.seenBirds[i] = value;
            draft.strays.seen++;
            return true;
        }

        private boolean takeWord(String word) {
            if (!tape.spells(word)) {
                return fail(FORM);
            }
            tape.step();
            return true;
        }

        private boolean isNumber(int least, int most) {
            if (tape.sort != Tape.WHOLE) {
                return fail(FORM);
            }
            return isWithin(tape.whole, least, most) || fail(OUT_OF_BOUNDS);
        }

        private boolean takeNumber(String word, int least, int most) {
            if (!tape.spells(word)) {
                return fail(FORM);
            }
            tape.step();
            if (!isNumber(least, most)) {
                return false;
            }
            value = tape.whole;
            tape.step();
            return true;
        }

        private boolean takeNewName(int houseSoNamed) {
            if (!tape.isName()) {
                return fail(FORM);
            }
            if (nameAt(tape.word) >= 0) {
                return fail(AGAIN);
            }
            if (names >= MOST_NAMES) {
                return fail(MANY);
            }
            name[names] = tape.word;
            houseNamed[names] = houseSoNamed;
            names++;
            tape.step();
            return true;
        }

        private boolean takeHouse(int unlike) {
            if (!tape.isName()) {
                return fail(FORM);
            }
            int at = nameAt(tape.word);
            if (at < 0 || houseNamed[at] < 0) {
                return fail(UNTOLD);
            }
            if (houseNamed[at] == unlike) {
                return fail(AGAIN);
            }
            value = houseNamed[at];
            tape.step();
            return true;
        }

        private boolean takeKind() {
            if (tape.spells("plain")) {
                value = Town.PLAIN;
            } else if (tape.spells("honest")) {
                value = Town.HONEST;
            } else if (tape.spells("proud")) {
                value = Town.PROUD;
            } else if (tape.spells("blind")) {
                value = Town.BLIND;
            } else {
                return fail(FORM);
            }
            tape.step();
            return true;
        }

        private int nameAt(long word) {
            for (int i = 0; i < names; i++) {
                if (name[i] == word) {
                    return i;
                }
            }
            return NONE;
        }
    }

    /** What a TEXT tells, and what follows from it alone. Without houses it is no TOWN. */
    private static final class Town {
        static final int MOST_HOUSES = 6;
        static final int MOST_BIRDS = 7;

        static final int PLAIN = 0;
        static final int HONEST = 1;
        static final int PROUD = 2;
        static final int BLIND = 3;

        private int wings;
        private int hawks;
        private int storm;
        private int houses;
        private int birds;
        private final int[] place = new int[MOST_HOUSES];
        private final int[] coins = new int[MOST_HOUSES];
        private final int[] kind = new int[MOST_BIRDS];
        private final int[] from = new int[MOST_BIRDS];
        private final int[] target = new int[MOST_BIRDS];
        private final int[] letGo = new int[MOST_BIRDS];
        private final int[] need = new int[MOST_BIRDS];
        private final int[] sill = new int[MOST_BIRDS];
        private final int[] flight = new int[MOST_BIRDS];
        private final Strays strays = new Strays();

        void clear() {
            wings = 0;
            hawks = 0;
            storm = 0;
            houses = 0;
            birds = 0;
            strays.clear();
        }

        // Houses may be told behind birds, so SILLS wait for the end of the text.
        void settle() {
            for (int b = 0; b < birds; b++) {
                sill[b] = kind[b] == BLIND ? nearestTo(target[b]) : target[b];
                flight[b] = daysApart(from[b], sill[b]);
            }
            strays.settle(this);
        }

        static int needBy(int kind, int wrong) {
            if (kind == HONEST) {
                return (wrong + 1) / 2;
            }
            return kind == PROUD ? 2 * wrong : wrong;
        }

        int distance(int h, int other) {
            return Math.abs(place[h] - place[other]);
        }

        int daysApart(int h, int other) {
            return wings < 1 ? 0 : (distance(h, other) + wings - 1) / wings;
        }

        int nearestTo(int h) {
            int nearest = h;
            for (int other = 0; other < houses; other++) {
                if (other != h && (nearest == h || distance(other, h) < distance(nearest, h))) {
                    nearest = other;
                }
            }
            return nearest;
        }

        int sitsFrom(int b) {
            return letGo[b] + flight[b];
        }

        int sittersIfNoneGoes(int h, int date) {
            int count = 0;
            for (int b = 0; b < birds; b++) {
                if (sill[b] == h && sitsFrom(b) <= date) {
                    count++;
                }
            }
            return count;
        }
    }

    /** The strays and what was seen, and the rows of houses that fit both. */
    private static final class Strays {
        static final int MOST_STRAYS = 3;
        static final int MOST_SEEN = 5;

        private static final int MOST_ROWS = 125;
        private static final int LAST_LOOK = 40;
        // A row holds its houses three bits each, the first stray's highest: rows go up in their order.
        private static final int HOUSE_BITS = 3;
        private static final int HOUSE_MASK = 7;

        private int count;
        private final int[] from = new int[MOST_STRAYS];
        private final int[] letGo = new int[MOST_STRAYS];
        private final int[][] sitsFrom = new int[MOST_STRAYS][Town.MOST_HOUSES];
        private int seen;
        private final int[] seenHouse = new int[MOST_SEEN];
        private final int[] seenDay = new int[MOST_SEEN];
        private final int[] seenBirds = new int[MOST_SEEN];
        private final int[] knownBirds = new int[MOST_SEEN];
        private int rows;
        private final int[] row = new int[MOST_ROWS];
        private final int[] tally = new int[MOST_STRAYS + 1];

        void clear() {
            count = 0;
            seen = 0;
            rows = 0;
        }

        boolean wasSeen(int h, int date) {
            for (int i = 0; i < seen; i++) {
                if (seenHouse[i] == h && seenDay[i] == date) {
                    return true;
                }
            }
            return false;
        }

        // What was paid or met never changes FITS: they are found once for a TOWN.
        void settle(Town town) {
            for (int s = 0; s < count; s++) {
                for (int h = 0; h < town.houses; h++) {
                    sitsFrom[s][h] = letGo[s] + town.daysApart(from[s], h);
                }
            }
            for (int i = 0; i < seen; i++) {
                knownBirds[i] = town.sittersIfNoneGoes(seenHouse[i], seenDay[i]);
            }
            rows = 0;
            int end = 1 << HOUSE_BITS * count;
            for (int candidate = 0; candidate < end; candidate++) {
                if (isRow(candidate, town.houses) && fitsSeen(candidate) && rows < MOST_ROWS) {
                    row[rows] = candidate;
                    rows++;
                }
            }
        }

        int guess(int candidate, int s) {
            return candidate >> HOUSE_BITS * (count - 1 - s) & HOUSE_MASK;
        }

        private boolean isRow(int candidate, int houses) {
            for (int s = 0; s < count; s++) {
                int h = guess(candidate, s);
                if (h >= houses || h == from[s]) {
                    return false;
                }
            }
            return true;
        }

        private boolean fitsSeen(int candidate) {
            for (int i = 0; i < seen; i++) {
                int strays = sitting(candidate, seenHouse[i], seenDay[i]);
                if (knownBirds[i] + strays != seenBirds[i]) {
                    return false;
                }
            }
            return true;
        }

        private int sitting(int candidate, int h, int date) {
            int sum = 0;
            for (int s = 0; s < count; s++) {
                if (guess(candidate, s) == h && sitsFrom[s][h] <= date) {
                    sum++;
                }
            }
            return sum;
        }

        int guesses(int s) {
            int bits = 0;
            for (int i = 0; i < rows; i++) {
                bits |= 1 << guess(row[i], s);
            }
            return bits;
        }

        int onlyGuess(int s) {
            if (rows == 0 || Integer.bitCount(guesses(s)) != 1) {
                return NEVER;
            }
            return guess(row[0], s);
        }

        int bestSpot(Town town) {
            int best = NEVER;
            int fewest = rows;
            for (int h = 0; h < town.houses && rows > 0; h++) {
                for (int date = 0; date <= LAST_LOOK; date++) {
                    // without a new stray a day parts the rows just as the day ahead of it
                    if (date > 0 && !comesOn(h, date)) {
                        continue;
                    }
                    int leaves = mostLeft(h, date);
                    if (best == NEVER || leaves < fewest) {
                        best = 100 * h + date;
                        fewest = leaves;
                    }
                }
            }
            return best;
        }

        int bestSpotLeaves(Town town) {
            int spot = bestSpot(town);
            return spot < 0 ? NEVER : mostLeft(spot / 100, spot % 100);
        }

        private boolean comesOn(int h, int date) {
            for (int s = 0; s < count; s++) {
                if (sitsFrom[s][h] == date) {
                    return true;
                }
            }
            return false;
        }

        private int mostLeft(int h, int date) {
            for (int k = 0; k < tally.length; k++) {
                tally[k] = 0;
            }
            for (int i = 0; i < rows; i++) {
                tally[sitting(row[i], h, date)]++;
            }
            int most = 0;
            for (int k = 0; k < tally.length; k++) {
                most = Math.max(most, tally[k]);
            }
            return most;
        }

        int firstTooFew() {
            for (int i = 0; i < seen; i++) {
                if (seenBirds[i] < knownBirds[i]) {
                    return i;
                }
            }
            return NEVER;
        }
    }

    /** What changes by ACTS, and what is read from it of NOW and of days to come. */
    private static final class Present {
        private static final int IN_LOFT = 0;
        private static final int IN_FLIGHT = 1;
        private static final int SITTING = 2;
        private static final int GONE = 3;

        private int date;
        private int spent;
        private int gone;
        private final int[] coins = new int[Town.MOST_HOUSES];
        private final int[] white = new int[Town.MOST_HOUSES];
        private final int[] paid = new int[Town.MOST_BIRDS];

        void start(Town town) {
            date = 0;
            spent = 0;
            gone = 0;
            for (int h = 0; h < Town.MOST_HOUSES; h++) {
                coins[h] = town.coins[h];
                white[h] = 0;
            }
            for (int b = 0; b < Town.MOST_BIRDS; b++) {
                paid[b] = 0;
            }
        }

        void copy(Present other) {
            date = other.date;
            spent = other.spent;
            gone = other.gone;
            System.arraycopy(other.coins, 0, coins, 0, Town.MOST_HOUSES);
            System.arraycopy(other.white, 0, white, 0, Town.MOST_HOUSES);
            System.arraycopy(other.paid, 0, paid, 0, Town.MOST_BIRDS);
        }

        boolean isGone(int b) {
            return (gone >> b & 1) != 0;
        }

        int present(Town town) {
            return (1 << town.birds) - 1 & ~gone;
        }

        int lacking(Town town, int b) {
            return town.need[b] - paid[b];
        }

        int stateOn(Town town, int b, int someDate) {
            if (isGone(b)) {
                return GONE;
            }
            if (someDate < town.letGo[b]) {
                return IN_LOFT;
            }
            return someDate < town.sitsFrom(b) ? IN_FLIGHT : SITTING;
        }

        boolean sitsOn(Town town, int b, int someDate) {
            return stateOn(town, b, someDate) == SITTING;
        }

        int sitters(Town town, int h, int someDate) {
            int bits = 0;
            for (int b = 0; b < town.birds; b++) {
                if (town.sill[b] == h && sitsOn(town, b, someDate)) {
                    bits |= 1 << b;
                }
            }
            return bits;
        }

        int birdsFor(Town town, int h) {
            int bits = 0;
            for (int b = 0; b < town.birds; b++) {
                if (town.target[b] == h && !isGone(b)) {
                    bits |= 1 << b;
                }
            }
            return bits;
        }

        int fullestHouse(Town town) {
            int fullest = 0;
            int most = 0;
            for (int h = 0; h < town.houses; h++) {
                int count = Integer.bitCount(sitters(town, h, date));
                if (count > most) {
                    fullest = h;
                    most = count;
                }
            }
            return fullest;
        }

        int housesWithoutGrudge(Town town) {
            int bits = 0;
            for (int h = 0; h < town.houses; h++) {
                if (birdsFor(town, h) == 0) {
                    bits |= 1 << h;
                }
            }
            return bits;
        }

        int whiteBehind(Town town, int h, int days) {
            int sum = white[h];
            for (int b = 0; b < town.birds; b++) {
                if (town.sill[b] == h && !isGone(b)) {
                    int sat = date + days - town.sitsFrom(b) + 1;
                    sum += Math.max(0, Math.min(days, sat));
                }
            }
            return sum;
        }

        int whitestHouse(Town town, int days) {
            int whitest = 0;
            for (int h = 1; h < town.houses; h++) {
                if (whiteBehind(town, h, days) > whiteBehind(town, whitest, days)) {
                    whitest = h;
                }
            }
            return whitest;
        }

        int daysTillSitting(Town town, int b, int ahead) {
            int days = Math.max(0, town.sitsFrom(b) - date);
            return isGone(b) || days > ahead ? NEVER : days;
        }

        int daysTillAllSit(Town town, int ahead) {
            int longest = 0;
            for (int b = 0; b < town.birds; b++) {
                if (!isGone(b)) {
                    int days = daysTillSitting(town, b, ahead);
                    if (days == NEVER) {
                        return NEVER;
                    }
                    longest = Math.max(longest, days);
                }
            }
            return longest;
        }

        int mostCrowded(Town town, int ahead) {
            int worst = 0;
            int most = 0;
            for (int n = 0; n <= ahead; n++) {
                for (int h = 0; h < town.houses; h++) {
                    int count = Integer.bitCount(sitters(town, h, date + n));
                    if (count > most) {
                        worst = n;
                        most = count;
                    }
                }
            }
            return worst;
        }

        int emptyDays(Town town, int h, int ahead) {
            int count = 0;
            for (int n = 0; n <= ahead; n++) {
                if (sitters(town, h, date + n) == 0) {
                    count++;
                }
            }
            return count;
        }

        int debt(Town town, int h) {
            int sum = 0;
            for (int b = 0; b < town.birds; b++) {
                if (town.target[b] == h && !isGone(b)) {
                    sum += lacking(town, b);
                }
            }
            return sum;
        }

        int housesInDebt(Town town) {
            int bits = 0;
            for (int h = 0; h < town.houses; h++) {
                if (coins[h] < debt(town, h)) {
                    bits |= 1 << h;
                }
            }
            return bits;
        }

        int grudges(Town town, int h, int other) {
            int sum = 0;
            for (int b = 0; b < town.birds; b++) {
                if (town.from[b] == h && town.target[b] == other && !isGone(b)) {
                    sum += lacking(town, b);
                }
            }
            return sum;
        }

        boolean canPair(Town town, int b, int other) {
            return !isGone(b) && !isGone(other)
                    && town.from[b] == town.target[other] && town.from[other] == town.target[b];
        }

        int pairCost(Town town, int b, int other) {
            return Math.abs(lacking(town, b) - lacking(town, other));
        }

        int pairPayer(Town town, int b, int other) {
            return lacking(town, b) >= lacking(town, other) ? town.target[b] : town.target[other];
        }

        int passDay(Town town) {
            date++;
            int count = 0;
            for (int b = 0; b < town.birds; b++) {
                if (sitsOn(town, b, date)) {
                    white[town.sill[b]]++;
                    count++;
                }
            }
            return count;
        }

        void payFor(Town town, int b, int some) {
            coins[town.target[b]] -= some;
            spent += some;
            paid[b] += some;
            if (lacking(town, b) == 0) {
                gone |= 1 << b;
            }
        }

        void pair(Town town, int b, int other) {
            int cost = pairCost(town, b, other);
            coins[pairPayer(town, b, other)] -= cost;
            spent += cost;
            gone |= 1 << b | 1 << other;
        }
    }

    /** The presents that can come back: those ahead of the latest ACTS, and IMAGES. */
    private static final class History {
        private static final int MOST_ACTS = 16;
        private static final int MOST_IMAGES = 3;

        private final Present[] ahead = new Present[MOST_ACTS];
        private final Present[] drawn = new Present[MOST_IMAGES];
        private int acts;
        private int next;
        private int images;

        History() {
            for (int i = 0; i < MOST_ACTS; i++) {
                ahead[i] = new Present();
            }
            for (int i = 0; i < MOST_IMAGES; i++) {
                drawn[i] = new Present();
            }
        }

        void forget() {
            acts = 0;
            images = 0;
        }

        void keep(Present now) {
            ahead[next].copy(now);
            next = (next + 1) % MOST_ACTS;
            acts = Math.min(acts + 1, MOST_ACTS);
        }

        boolean takeBack(Present now) {
            if (acts == 0) {
                return false;
            }
            acts--;
            next = (next + MOST_ACTS - 1) % MOST_ACTS;
            now.copy(ahead[next]);
            return true;
        }

        int draw(Present now) {
            if (images >= MOST_IMAGES) {
                return NONE;
            }
            drawn[images].copy(now);
            images++;
            return images - 1;
        }

        boolean restore(Present now, int number) {
            if (number < 0 || number >= images) {
                return false;
            }
            now.copy(drawn[number]);
            acts = 0;
            return true;
        }
    }

    /** PEACE and MOST, over sets of birds as bits. */
    private static final class Amends {
        private static final int SETS = 1 << Town.MOST_BIRDS;

        private final int[] cost = new int[SETS];
        private final int[] ways = new int[SETS];

        int partners(Town town, Present now, int b) {
            int bits = 0;
            for (int other = 0; other < town.birds; other++) {
                if (other != b && now.canPair(town, b, other)) {
                    bits |= 1 << other;
                }
            }
            return bits;
        }

        int cheapest(Town town, Present now) {
            weighSets(town, now);
            return cost[now.present(town)];
        }

        int cheapestRows(Town town, Present now) {
            weighSets(town, now);
            return ways[now.present(town)];
        }

        // Each set's first bird is alone or with a later one, so smaller sets weigh larger ones.
        private void weighSets(Town town, Present now) {
            int all = now.present(town);
            cost[0] = 0;
            ways[0] = 1;
            for (int set = 1; set <= all; set++) {
                if ((set & ~all) == 0) {
                    weigh(town, now, set);
                }
            }
        }

        private void weigh(Town town, Present now, int set) {
            int b = firstOf(set);
            int rest = set & set - 1;
            cost[set] = now.lacking(town, b) + cost[rest];
            ways[set] = ways[rest];
            for (int other = b + 1; other < town.birds; other++) {
                if ((rest >> other & 1) == 0 || !now.canPair(town, b, other)) {
                    continue;
                }
                int others = rest & ~(1 << other);
                int sum = now.pairCost(town, b, other) + cost[others];
                if (sum < cost[set]) {
                    cost[set] = sum;
                    ways[set] = ways[others];
                } else if (sum == cost[set]) {
                    ways[set] += ways[others];
                }
            }
        }

        int partnerOf(Town town, Present now, int wanted) {
            if (now.isGone(wanted)) {
                return NEVER;
            }
            weighSets(town, now);
            int set = now.present(town);
            for (int i = 0; i < Town.MOST_BIRDS && set != 0; i++) {
                int b = firstOf(set);
                int other = firstPartner(town, now, set, b);
                if (b == wanted) {
                    return other;
                }
                if (other == wanted) {
                    return b;
                }
                set &= set - 1;
                if (other >= 0) {
                    set &= ~(1 << other);
                }
            }
            return NEVER;
        }

        private int firstPartner(Town town, Present now, int set, int b) {
            int rest = set & set - 1;
            if (now.lacking(town, b) + cost[rest] == cost[set]) {
                return NEVER;
            }
            for (int other = b + 1; other < town.birds; other++) {
                if ((rest >> other & 1) != 0 && now.canPair(town, b, other)
                        && now.pairCost(town, b, other) + cost[rest & ~(1 << other)] == cost[set]) {
                    return other;
                }
            }
            return NEVER;
        }

        private static int firstOf(int set) {
            return Integer.bitCount((set & -set) - 1);
        }

        int largestSet(Town town, Present now, int among, int coins) {
            int best = 0;
            int fewest = 0;
            for (int set = 1; set <= among; set++) {
                if ((set & ~among) != 0) {
                    continue;
                }
                int sum = sumOf(town, now, set);
                int more = Integer.bitCount(set) - Integer.bitCount(best);
                if (sum <= coins && (more > 0 || more == 0 && sum < fewest)) {
                    best = set;
                    fewest = sum;
                }
            }
            return best;
        }

        int cheapestSet(Town town, Present now, int many) {
            int all = now.present(town);
            int fewest = NEVER;
            for (int set = 0; set <= all; set++) {
                if ((set & ~all) == 0 && Integer.bitCount(set) == many) {
                    int sum = sumOf(town, now, set);
                    fewest = fewest == NEVER ? sum : Math.min(fewest, sum);
                }
            }
            return fewest;
        }

        private static int sumOf(Town town, Present now, int set) {
            int sum = 0;
            for (int b = 0; b < town.birds; b++) {
                if ((set >> b & 1) != 0) {
                    sum += now.lacking(town, b);
                }
            }
            return sum;
        }

        int mostSparing(Town town, Present now) {
            int best = NEVER;
            int most = 0;
            for (int b = 0; b < town.birds; b++) {
                for (int other = b + 1; other < town.birds; other++) {
                    if (now.canPair(town, b, other)) {
                        int spared = now.lacking(town, b) + now.lacking(town, other)
                                - now.pairCost(town, b, other);
                        if (best == NEVER || spared > most) {
                            best = 10 * b + other;
                            most = spared;
                        }
                    }
                }
            }
            return best;
        }
    }

    /** Rings of houses of which each one wronged the next one. */
    private static final class Rings {
        private static final int UNREACHED = 99;

        private final int[] wronged = new int[Town.MOST_HOUSES];
        private final int[] steps = new int[Town.MOST_HOUSES];

        int shortest(Town town, Present now, int h) {
            findSteps(town, now, h);
            int fewest = UNREACHED;
            for (int next = 0; next < town.houses; next++) {
                if (hasWronged(h, next)) {
                    fewest = Math.min(fewest, steps[next] + 1);
                }
            }
            return fewest >= UNREACHED ? NEVER : fewest;
        }

        int memberAt(Town town, Present now, int h, int i) {
            int length = shortest(town, now, h);
            if (i < 0 || i >= length) {
                return NONE;
            }
            int member = h;
            for (int k = 1; k <= i; k++) {
                member = firstOnTheWay(town, member, length - k);
                if (member < 0) {
                    return NONE;
                }
            }
            return member;
        }

        private int firstOnTheWay(Town town, int member, int stepsLeft) {
            for (int next = 0; next < town.houses; next++) {
                if (hasWronged(member, next) && steps[next] == stepsLeft) {
                    return next;
                }
            }
            return NONE;
        }

        private boolean hasWronged(int h, int other) {
            return (wronged[h] >> other & 1) != 0;
        }

        // How many steps from each house, along those it wronged, to the one asked for.
        private void findSteps(Town town, Present now, int h) {
            findWrongs(town, now);
            for (int k = 0; k < town.houses; k++) {
                steps[k] = k == h ? 0 : UNREACHED;
            }
            for (int round = 0; round < town.houses; round++) {
                for (int k = 0; k < town.houses; k++) {
                    for (int next = 0; next < town.houses; next++) {
                        if (hasWronged(k, next)) {
                            steps[k] = Math.min(steps[k], steps[next] + 1);
                        }
                    }
                }
            }
        }

        private void findWrongs(Town town, Present now) {
            for (int k = 0; k < town.houses; k++) {
                wronged[k] = 0;
            }
            for (int b = 0; b < town.birds; b++) {
                if (!now.isGone(b)) {
                    wronged[town.target[b]] |= 1 << town.from[b];
                }
            }
        }
    }

    /** How likely birds aren't taken, in lowest terms; 8 days of hundredths stay within a long. */
    private static final class Hawks {
        private static final int IN_ALL = 100;
        private static final int MOST_DIVISIONS = 200;

        static long untaken(int hawks, int days, boolean lower) {
            return term(power(IN_ALL - hawks, days), power(IN_ALL, days), lower);
        }

        static long untakenOf(int hawks, int sitting, int many, boolean lower) {
            if (many > sitting) {
                return term(0, 1, lower);
            }
            long upper = choices(sitting, many) * power(IN_ALL - hawks, many)
                    * power(hawks, sitting - many);
            return term(upper, power(IN_ALL, sitting), lower);
        }

        static long meanDays(int hawks, int days, boolean lower) {
            long upper = 0;
            for (int n = 1; n <= days; n++) {
                upper += power(IN_ALL - hawks, n) * power(IN_ALL, days - n);
            }
            return term(upper, power(IN_ALL, days), lower);
        }

        private static long power(long base, int times) {
            long product = 1;
            for (int i = 0; i < times; i++) {
                product *= base;
            }
            return product;
        }

        private static long choices(int of, int many) {
            long product = 1;
            for (int i = 1; i <= many; i++) {
                product = product * (of - many + i) / i;
            }
            return product;
        }

        private static long term(long upper, long lower, boolean wantsLower) {
            long divisor = commonDivisor(upper, lower);
            long wanted = wantsLower ? lower : upper;
            return divisor == 0 ? wanted : wanted / divisor;
        }

        private static long commonDivisor(long a, long b) {
            long large = a;
            long small = b;
            for (int i = 0; i < MOST_DIVISIONS && small != 0; i++) {
                long remainder = large % small;
                large = small;
                small = remainder;
            }
            return large;
        }
    }

    /** Flights by DRAWS from a SEED. */
    private static final class Storms {
        private static final int MOST_DAYS = 90;

        private int seed;

        void begin(int someSeed) {
            seed = someSeed;
        }

        int daysAloft(int flight, int storm) {
            int toGo = flight;
            for (int days = 0; days <= MOST_DAYS; days++) {
                if (toGo == 0) {
                    return days;
                }
                // a bird that isn't there behind 90 days draws no more
                if (days < MOST_DAYS && drawn() % 100 >= storm) {
                    toGo--;
                }
            }
            return NEVER;
        }

        private int drawn() {
            seed = (75 * seed + 74) % 65_537;
            return seed;
        }

        int latestBird(Town town, int present) {
            int latest = NEVER;
            int latestDate = 0;
            for (int b = 0; b < town.birds; b++) {
                if ((present >> b & 1) == 0) {
                    continue;
                }
                int days = daysAloft(town.flight[b], town.storm);
                int date = town.letGo[b] + days;
                if (days != NEVER && (latest == NEVER || date > latestDate)) {
                    latest = b;
                    latestDate = date;
                }
            }
            return latest;
        }
    }
}
