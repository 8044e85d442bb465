import java.util.ArrayList;
import java.util.Arrays;
import java.util.List;

/** Towns by chance (always the same ones), told and acted on, against a slow model that goes day by day. */
public final class ModelTest {
    private static final String[] KINDS = {"plain", "honest", "proud", "blind"};
    private static long state = 2026;

    private static int chance(int below) {
        state = state * 6364136223846793005L + 1442695040888963407L;
        return (int) ((state >>> 33) % below);
    }

    private static int between(int least, int most) {
        return least + chance(most - least + 1);
    }

    private int wings;
    private int hawks;
    private int storm;
    private int[] place;
    private int[] coins;
    private int[] kind;
    private int[] from;
    private int[] target;
    private int[] letGo;
    private int[] wrong;
    private int[] strayFrom;
    private int[] strayDay;
    private int[][] seen;
    private int today;
    private int[] white;
    private int[] left;
    private boolean[] gone;
    private int spent;

    public static void main(String[] args) {
        for (int i = 0; i < 250; i++) {
            new ModelTest().run();
        }
        Check.end("ModelTest");
    }

    private void run() {
        GrudgeLoft x = Check.town(tell());
        for (int round = 0; round < 4; round++) {
            compareNow(x);
            compareDays(x);
            comparePeace(x);
            compareSets(x);
            compareRings(x);
            compareStrays(x);
            compareStorms(x);
            for (int act = 0; act < 12; act++) {
                act(x);
            }
        }
    }

    private String tell() {
        int houses = between(2, 6);
        int birds = between(0, 7);
        int strays = between(0, 3);
        wings = chance(3) == 0 ? between(1, 3) : between(4, 50);
        hawks = between(0, 100);
        storm = between(0, 60);
        place = new int[houses];
        coins = new int[houses];
        kind = new int[birds];
        from = new int[birds];
        target = new int[birds];
        letGo = new int[birds];
        wrong = new int[birds];
        strayFrom = new int[strays];
        strayDay = new int[strays];
        StringBuilder text = new StringBuilder();
        text.append("loft wings ").append(wings).append(" hawks ").append(hawks).append(" storm ").append(storm);
        int spread = chance(2) == 0 ? 9 : 99;
        for (int h = 0; h < houses; h++) {
            place[h] = between(0, spread);
            coins[h] = between(0, 90);
            text.append(";house h").append((char) ('a' + h)).append(" at ").append(place[h]).append(" coins ")
                    .append(coins[h]);
        }
        int most = chance(2) == 0 ? 4 : 60;
        int near = Math.min(houses, between(2, 6));
        for (int b = 0; b < birds; b++) {
            kind[b] = chance(4);
            from[b] = chance(near);
            target[b] = (from[b] + between(1, near - 1)) % near;
            letGo[b] = between(0, chance(2) == 0 ? 3 : 30);
            wrong[b] = between(1, most);
            text.append(";bird b").append((char) ('a' + b)).append(' ').append(KINDS[kind[b]]).append(" from h")
                    .append((char) ('a' + from[b])).append(" to h").append((char) ('a' + target[b])).append(" day ")
                    .append(letGo[b]).append(" wrong ").append(wrong[b]);
        }
        for (int s = 0; s < strays; s++) {
            strayFrom[s] = chance(houses);
            strayDay[s] = between(0, chance(2) == 0 ? 3 : 30);
            text.append(";stray s").append((char) ('a' + s)).append(" from h").append((char) ('a' + strayFrom[s]))
                    .append(" day ").append(strayDay[s]);
        }
        startAnew();
        tellSeen(text);
        return text.toString();
    }

    private void startAnew() {
        today = 0;
        spent = 0;
        white = new int[place.length];
        gone = new boolean[kind.length];
        left = new int[kind.length];
        for (int b = 0; b < kind.length; b++) {
            left[b] = kind[b] == 1 ? wrong[b] - wrong[b] / 2 : kind[b] == 2 ? 2 * wrong[b] : wrong[b];
        }
    }

    /** Mostly what a row of houses that some chance picks would show. */
    private void tellSeen(StringBuilder text) {
        int[] row = new int[strayFrom.length];
        for (int s = 0; s < row.length; s++) {
            row[s] = (strayFrom[s] + between(1, place.length - 1)) % place.length;
        }
        List<int[]> all = new ArrayList<>();
        for (int i = between(0, 5); i > 0; i--) {
            int h = chance(place.length);
            int date = between(0, 30);
            boolean again = false;
            for (int[] one : all) {
                again |= one[0] == h && one[1] == date;
            }
            int count = sittersOfAll(h, date, row) + (chance(12) == 0 ? between(-1, 1) : 0);
            if (!again && count >= 0 && count <= 9) {
                all.add(new int[] {h, date, count});
                text.append(";seen h").append((char) ('a' + h)).append(" day ").append(date).append(" birds ")
                        .append(count);
            }
        }
        seen = all.toArray(new int[0][]);
    }

    private int flightDays(int h, int other) {
        int way = Math.abs(place[h] - place[other]);
        int days = 0;
        while (days * wings < way) {
            days++;
        }
        return days;
    }

    private int sill(int b) {
        if (kind[b] != 3) {
            return target[b];
        }
        for (int way = 0; way < 100; way++) {
            for (int h = 0; h < place.length; h++) {
                if (h != target[b] && Math.abs(place[h] - place[target[b]]) == way) {
                    return h;
                }
            }
        }
        return -9;
    }

    private int sittersOfAll(int h, int date, int[] row) {
        int count = 0;
        for (int b = 0; b < kind.length; b++) {
            if (sill(b) == h && date >= letGo[b] + flightDays(from[b], h)) {
                count++;
            }
        }
        for (int s = 0; s < row.length; s++) {
            if (row[s] == h && date >= strayDay[s] + flightDays(strayFrom[s], h)) {
                count++;
            }
        }
        return count;
    }

    private int where(int b, int date) {
        if (gone[b]) {
            return 3;
        }
        if (date < letGo[b]) {
            return 0;
        }
        return date < letGo[b] + flightDays(from[b], sill(b)) ? 1 : 2;
    }

    private int sitting(int h, int date) {
        int count = 0;
        for (int b = 0; b < kind.length; b++) {
            if (sill(b) == h && where(b, date) == 2) {
                count++;
            }
        }
        return count;
    }

    private boolean canMeet(int b, int other) {
        return b != other && !gone[b] && !gone[other] && from[b] == target[other] && target[b] == from[other];
    }

    private void act(GrudgeLoft x) {
        int birds = kind.length;
        if (birds == 0 || chance(3) == 0) {
            today++;
            int count = 0;
            for (int h = 0; h < place.length; h++) {
                white[h] += sitting(h, today);
                count += sitting(h, today);
            }
            Check.due("day()", x.day(), count);
            return;
        }
        int b = chance(birds);
        int other = chance(birds);
        if (chance(6) == 0 && b != other) {
            int due = -1;
            if (canMeet(b, other)) {
                int more = left[b] > left[other] ? b : other;
                int cost = Math.abs(left[b] - left[other]);
                if (coins[target[more]] >= cost) {
                    due = cost;
                    coins[target[more]] -= cost;
                    spent += cost;
                    gone[b] = true;
                    gone[other] = true;
                }
            }
            Check.due("meet(" + b + ", " + other + ")", x.meet(b, other), due);
            return;
        }
        int some = between(1, 9);
        int due = -1;
        if (where(b, today) == 2 && left[b] >= some && coins[target[b]] >= some) {
            left[b] -= some;
            coins[target[b]] -= some;
            spent += some;
            gone[b] = left[b] == 0;
            due = left[b];
        }
        Check.due("pay(" + b + ", " + some + ")", x.pay(b, some), due);
    }

    private void compareNow(GrudgeLoft x) {
        Check.due("day", x.size(7), today);
        Check.due("spent", x.size(8), spent);
        int fullest = 0;
        int poor = 0;
        int clean = 0;
        int present = 0;
        for (int h = 0; h < place.length; h++) {
            fullest = sitting(h, today) > sitting(fullest, today) ? h : fullest;
            int owed = 0;
            int bits = 0;
            for (int b = 0; b < kind.length; b++) {
                owed += target[b] == h && !gone[b] ? left[b] : 0;
                bits |= target[b] == h && !gone[b] ? 1 << b : 0;
            }
            present |= bits;
            poor |= coins[h] < owed ? 1 << h : 0;
            clean |= bits == 0 ? 1 << h : 0;
            Check.due("coins of " + h, x.house(h, 1), coins[h]);
            Check.due("WHITE of " + h, x.house(h, 2), white[h]);
            Check.due("sitting on " + h, Integer.bitCount(x.house(h, 3)), sitting(h, today));
            Check.due("for " + h, x.house(h, 4), bits);
            Check.due("owes " + h, x.owes(h), owed);
        }
        Check.due("birds()", x.birds(), present);
        Check.due("fullest()", x.fullest(), fullest);
        Check.due("clean()", x.clean(), clean);
        Check.due("poor()", x.poor(), poor);
        for (int b = 0; b < kind.length; b++) {
            Check.due("SILL of " + b, x.bird(b, 3), sill(b));
            Check.due("FLIGHT of " + b, x.bird(b, 4), flightDays(from[b], sill(b)));
            Check.due("LEFT of " + b, x.bird(b, 6), left[b]);
        }
    }

    private void compareDays(GrudgeLoft x) {
        int worst = 0;
        int most = 0;
        int all = -2;
        int[] whiteThen = white.clone();
        int[] quiet = new int[place.length];
        int[] first = new int[kind.length];
        Arrays.fill(first, -2);
        for (int n = 0; n <= 60; n++) {
            int whitest = 0;
            for (int h = 0; h < place.length; h++) {
                int count = sitting(h, today + n);
                whiteThen[h] += n == 0 ? 0 : count;
                quiet[h] += count == 0 ? 1 : 0;
                whitest = whiteThen[h] > whiteThen[whitest] ? h : whitest;
                if (count > most) {
                    most = count;
                    worst = n;
                }
                Check.due("sitIn(" + h + ", " + n + ")", x.sitIn(h, n), count);
                Check.due("whiteIn(" + h + ", " + n + ")", x.whiteIn(h, n), whiteThen[h]);
            }
            Check.due("whitest(" + n + ")", x.whitest(n), whitest);
            boolean sit = true;
            for (int b = 0; b < kind.length; b++) {
                int where = where(b, today + n);
                Check.due("whereIn(" + b + ", " + n + ")", x.whereIn(b, n), where);
                sit &= where >= 2;
                first[b] = where == 2 && first[b] < 0 ? n : first[b];
            }
            all = sit && all < 0 ? n : all;
        }
        Check.due("worstDay()", x.worstDay(), worst);
        Check.due("allSit()", x.allSit(), all);
        for (int h = 0; h < place.length; h++) {
            Check.due("quiet(" + h + ")", x.quiet(h), quiet[h]);
        }
        for (int b = 0; b < kind.length; b++) {
            Check.due("sitsIn(" + b + ")", x.sitsIn(b), first[b]);
        }
    }

    /** All rows of partners, in their order. */
    private void rows(int b, int[] partner, int cost, List<int[]> rows, List<Integer> costs) {
        if (b == kind.length) {
            rows.add(partner.clone());
            costs.add(cost);
            return;
        }
        if (gone[b] || partner[b] >= 0) {
            rows(b + 1, partner, cost, rows, costs);
            return;
        }
        rows(b + 1, partner, cost + left[b], rows, costs);
        for (int other = b + 1; other < kind.length; other++) {
            if (partner[other] < 0 && canMeet(b, other)) {
                partner[b] = other;
                partner[other] = b;
                rows(b + 1, partner, cost + Math.abs(left[b] - left[other]), rows, costs);
                partner[b] = -2;
                partner[other] = -2;
            }
        }
    }

    private void comparePeace(GrudgeLoft x) {
        int[] partner = new int[kind.length];
        Arrays.fill(partner, -2);
        List<int[]> rows = new ArrayList<>();
        List<Integer> costs = new ArrayList<>();
        rows(0, partner, 0, rows, costs);
        int best = -1;
        int ways = 0;
        for (int i = 0; i < rows.size(); i++) {
            if (best < 0 || costs.get(i) < costs.get(best)) {
                best = i;
                ways = 0;
            }
            ways += costs.get(i).equals(costs.get(best)) ? 1 : 0;
        }
        Check.due("peace()", x.peace(), costs.get(best));
        Check.due("peaces()", x.peaces(), ways);
        for (int b = 0; b < kind.length; b++) {
            Check.due("mate(" + b + ")", x.mate(b), rows.get(best)[b]);
        }
    }

    private int bestSet(int some, int house) {
        int best = 0;
        int bestCost = 0;
        for (int set = 0; set < 1 << kind.length; set++) {
            int cost = 0;
            for (int b = 0; b < kind.length; b++) {
                if ((set >> b & 1) != 0) {
                    cost += gone[b] || house >= 0 && target[b] != house ? 100_000 : left[b];
                }
            }
            int more = Integer.bitCount(set) - Integer.bitCount(best);
            if (cost <= some && (more > 0 || more == 0 && cost < bestCost)) {
                best = set;
                bestCost = cost;
            }
        }
        return best;
    }

    private void compareSets(GrudgeLoft x) {
        for (int some : new int[] {0, 1, 3, 7, 20, 60, 200, 999, between(0, 999)}) {
            Check.due("most(" + some + ")", x.most(some), bestSet(some, -1));
        }
        for (int h = 0; h < place.length; h++) {
            Check.due("payable(" + h + ")", x.payable(h), bestSet(coins[h], h));
        }
        List<Integer> lefts = new ArrayList<>();
        int spared = -1;
        int pair = -2;
        for (int b = 0; b < kind.length; b++) {
            if (!gone[b]) {
                lefts.add(left[b]);
            }
            int bits = 0;
            for (int other = 0; other < kind.length; other++) {
                boolean can = canMeet(b, other);
                bits |= can ? 1 << other : 0;
                if (other != b) {
                    int cost = can ? Math.abs(left[b] - left[other]) : -2;
                    Check.due("meeting(" + b + ", " + other + ")", x.meeting(b, other), cost);
                }
                if (can && b < other && 2 * Math.min(left[b], left[other]) > spared) {
                    spared = 2 * Math.min(left[b], left[other]);
                    pair = 10 * b + other;
                }
            }
            Check.due("mayMeet(" + b + ")", x.mayMeet(b), bits);
        }
        Check.due("bestMeeting()", x.bestMeeting(), pair);
        lefts.sort(null);
        int sum = 0;
        for (int many = 0; many <= 7; many++) {
            Check.due("coinsFor(" + many + ")", x.coinsFor(many), many > lefts.size() ? -2 : sum);
            sum += many < lefts.size() ? lefts.get(many) : 0;
        }
    }

    private boolean hasWronged(int h, int other) {
        for (int b = 0; b < kind.length; b++) {
            if (!gone[b] && target[b] == h && from[b] == other) {
                return true;
            }
        }
        return false;
    }

    /** The first ring of so many houses that goes on from these; null if there is none. */
    private int[] ringFrom(int[] ring, int known) {
        int at = ring[known - 1];
        if (known == ring.length) {
            return hasWronged(at, ring[0]) ? ring.clone() : null;
        }
        for (int next = 0; next < place.length; next++) {
            boolean used = !hasWronged(at, next);
            for (int i = 0; i < known; i++) {
                used |= ring[i] == next;
            }
            if (!used) {
                ring[known] = next;
                int[] whole = ringFrom(ring, known + 1);
                if (whole != null) {
                    return whole;
                }
            }
        }
        return null;
    }

    private void compareRings(GrudgeLoft x) {
        for (int h = 0; h < place.length; h++) {
            int[] due = null;
            for (int size = 2; size <= place.length && due == null; size++) {
                int[] ring = new int[size];
                ring[0] = h;
                due = ringFrom(ring, 1);
            }
            Check.due("ring(" + h + ")", x.ring(h), due == null ? -2 : due.length);
            for (int i = 0; i < 7; i++) {
                Check.due("ringAt(" + h + ", " + i + ")", x.ringAt(h, i), due == null || i >= due.length ? -1 : due[i]);
            }
            for (int other = 0; other < place.length; other++) {
                int sum = 0;
                for (int b = 0; b < kind.length; b++) {
                    sum += !gone[b] && from[b] == h && target[b] == other ? left[b] : 0;
                }
                Check.due("feud(" + h + ", " + other + ")", x.feud(h, other), h == other ? -1 : sum);
            }
        }
    }

    private void fits(int s, int[] row, List<int[]> all) {
        if (s == row.length) {
            for (int[] one : seen) {
                if (sittersOfAll(one[0], one[1], row) != one[2]) {
                    return;
                }
            }
            all.add(row.clone());
            return;
        }
        for (int h = 0; h < place.length; h++) {
            if (h != strayFrom[s]) {
                row[s] = h;
                fits(s + 1, row, all);
            }
        }
    }

    private void compareStrays(GrudgeLoft x) {
        List<int[]> all = new ArrayList<>();
        fits(0, new int[strayFrom.length], all);
        Check.due("fits()", x.fits(), all.size());
        for (int s = 0; s < strayFrom.length; s++) {
            int could = 0;
            for (int i = 0; i < all.size(); i++) {
                could |= 1 << all.get(i)[s];
                Check.due("fitAt(" + i + ", " + s + ")", x.fitAt(i, s), all.get(i)[s]);
            }
            Check.due("could(" + s + ")", x.could(s), could);
            int only = Integer.bitCount(could) == 1 ? Integer.numberOfTrailingZeros(could) : -2;
            Check.due("surely(" + s + ")", x.surely(s), only);
        }
        int look = -2;
        int leaves = -2;
        for (int h = 0; h < place.length && !all.isEmpty(); h++) {
            for (int date = 0; date <= 40; date++) {
                int[] tally = new int[11];
                for (int[] row : all) {
                    tally[sittersOfAll(h, date, row)]++;
                }
                int most = Arrays.stream(tally).max().getAsInt();
                if (look < 0 || most < leaves) {
                    look = 100 * h + date;
                    leaves = most;
                }
            }
        }
        Check.due("look()", x.look(), look);
        Check.due("lookLeaves()", x.lookLeaves(), leaves);
        int judge = -2;
        for (int i = seen.length - 1; i >= 0; i--) {
            judge = seen[i][2] < sittersOfAll(seen[i][0], seen[i][1], new int[0]) ? i : judge;
        }
        Check.due("judge()", x.judge(), judge);
    }

    private void compareStorms(GrudgeLoft x) {
        int start = chance(65_537);
        long seed = start;
        int last = -2;
        int latest = -1;
        for (int b = 0; b < kind.length; b++) {
            int first = (int) seed;
            int near = 0;
            int days = 0;
            long own = first;
            int flight = flightDays(from[b], sill(b));
            while (near < flight && days < 90) {
                own = (75 * own + 74) % 65_537;
                near += own % 100 < storm ? 0 : 1;
                days++;
            }
            int due = near < flight ? -2 : days;
            Check.due("aloft(" + b + ", " + first + ")", x.aloft(b, first), due);
            if (!gone[b]) {
                seed = own;
                if (due >= 0 && letGo[b] + due > latest) {
                    latest = letGo[b] + due;
                    last = b;
                }
            }
        }
        Check.due("last(" + start + ")", x.last(start), last);
    }
}
