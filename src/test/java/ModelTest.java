import java.math.BigInteger;
import java.util.ArrayList;
import java.util.Arrays;
import java.util.Collections;
import java.util.Comparator;
import java.util.List;
import java.util.Random;
import java.util.TreeSet;

/**
 * Drawn runs of calls, each answer compared with that of a slow model which takes the document's
 * definitions literally. The draws come from fixed seeds, so every run of this test is the same.
 */
public final class ModelTest {
    private static final int SMALL_RUNS = 1500;
    private static final int LARGE_RUNS = 500;
    private static final int CALLS = 512;

    private static int wrong = 0;
    private static final int[] statusSeen = new int[13];
    private static final int[] rowsSeen = new int[17];

    public static void main(String[] args) {
        for (int r = 0; r < SMALL_RUNS + LARGE_RUNS && wrong < 20; r++) {
            boolean small = r < SMALL_RUNS;
            new Run(r, small).go();
        }
        checkTrials();
        for (int s = 0; s <= 12; s++) {
            if (statusSeen[s] < 50) {
                wrong++;
                System.out.println("status " + s + " was met only " + statusSeen[s] + " times");
            }
        }
        for (int length = 1; length <= 4; length++) {
            if (rowsSeen[length] < 5) {
                wrong++;
                System.out.println("rows of " + length + " were met only " + rowsSeen[length] + " times");
            }
        }
        System.out.println(wrong == 0 ? "all answers are the model's" : wrong + " answers are not the model's");
        if (wrong != 0) {
            System.exit(1);
        }
    }

    /** Larger trials, too dear for the drawn runs. */
    private static void checkTrials() {
        Random dice = new Random(77);
        for (int t = 0; t < 60; t++) {
            MentorPairs x = new MentorPairs();
            Model m = new Model(true);
            int n = 2 + dice.nextInt(15);
            int most = 1 + dice.nextInt(101);
            x.tray(0, 0, n);
            m.tray(0, 0, n);
            for (int i = 0; i < n; i++) {
                int v = dice.nextInt(most);
                x.write(0, i, v);
                m.write(0, i, v);
            }
            int helped = 1 + dice.nextInt((1 << n) - 2);
            boolean fine = x.gain(0, n, helped) == (m.gain(0, n, helped) == 1) && same(x, m);
            fine &= x.chance(0, n, helped) == (m.chance(0, n, helped) == 1) && same(x, m);
            if (!fine) {
                wrong++;
                System.out.println("trial " + t + " of " + n + " with set " + helped);
            }
        }
    }

    private static boolean same(MentorPairs x, Model m) {
        return x.status() == m.status && BigInteger.valueOf(x.upper()).equals(m.upper) && BigInteger.valueOf(x.lower()).equals(m.lower);
    }

    private static final class Run {
        final int number;
        final boolean small;
        final Random dice;
        final MentorPairs x = new MentorPairs();
        final Model m;
        final StringBuilder log = new StringBuilder();

        Run(int number, boolean small) {
            this.number = number;
            this.small = small;
            this.dice = new Random(1000 + number);
            this.m = new Model(small);
        }

        /** Mostly within 0 to most, now and then one off. */
        int pick(int most) {
            int d = dice.nextInt(40);
            if (d == 0) {
                return -1 - dice.nextInt(3);
            }
            if (d == 1) {
                return most + 1 + dice.nextInt(2);
            }
            if (d == 2) {
                return dice.nextBoolean() ? Integer.MAX_VALUE : Integer.MIN_VALUE;
            }
            return dice.nextInt(Math.max(0, most) + 1);
        }

        int anyElder() {
            return pick(m.places.size() - 1);
        }

        int anyBeginner() {
            return pick(m.beginners - 1);
        }

        void go() {
            int kind = dice.nextInt(6);
            if (kind == 5 && !crowd()) {
                return;
            }
            for (int c = 0; c < (kind == 2 ? CALLS : CALLS / 2); c++) {
                if (!call(kind == 0 ? dice.nextInt(6) : Math.min(kind, 5))) {
                    return;
                }
            }
        }

        /** Few places and few wishes, so that changes need long rows. */
        boolean crowd() {
            int elders = small ? 3 + dice.nextInt(2) : 6 + dice.nextInt(5);
            boolean fine = true;
            for (int e = 0; e < elders; e++) {
                fine &= check("elder(1)", x.elder(1), m.elder(1));
                fine &= check("beginner()", x.beginner(), m.beginner());
            }
            for (int e = 0; e < elders && fine; e++) {
                for (int b = 0; b < elders; b++) {
                    if (e == b || dice.nextInt(10) < 3) {
                        int much = 1 + dice.nextInt(3);
                        int back = e == b ? 50 : 1 + dice.nextInt(3);
                        fine &= check("like(" + e + ", " + b + ", true, " + much + ")", x.like(e, b, true, much), m.like(e, b, true, much));
                        fine &= check("like(" + e + ", " + b + ", false, " + back + ")", x.like(e, b, false, back), m.like(e, b, false, back));
                    }
                }
            }
            fine &= check("pair()", x.pair(), m.pair()) && everyPair();
            for (int c = 0; c < 4 && fine; c++) {
                int b = dice.nextInt(elders);
                int moved = m.change(b);
                if (moved > 0) {
                    rowsSeen[moved]++;
                }
                fine &= check("change(" + b + ")", x.change(b), moved) && everyPair();
            }
            return fine;
        }

        boolean call(int kind) {
            switch (kind) {
                case 1: return people();
                case 2: return dice.nextInt(8) == 0 ? people() : days();
                case 3: return lasting();
                case 4: return trialsAndTrays();
                default: return dice.nextInt(3) == 0 ? trialsAndTrays() : people();
            }
        }

        boolean people() {
            int d = dice.nextInt(100);
            int e = anyElder();
            int b = anyBeginner();
            boolean is = dice.nextBoolean();
            if (d < 3 && (!small || m.places.size() < 4)) {
                int p = pick(4);
                return check("elder(" + p + ")", x.elder(p), m.elder(p));
            }
            if (d < 7 && (!small || m.beginners < 5)) {
                return check("beginner()", x.beginner(), m.beginner());
            }
            if (d < 10) {
                int p = pick(4);
                return check("places(" + e + ", " + p + ")", x.places(e, p), m.places(e, p));
            }
            if (d < 60) {
                int much = dice.nextInt(3) == 0 ? pick(100) : dice.nextInt(12) == 0 ? 0 : 1 + dice.nextInt(3);
                return check("like(" + e + ", " + b + ", " + is + ", " + much + ")", x.like(e, b, is, much), m.like(e, b, is, much));
            }
            if (d < 64) {
                return check("bar(" + e + ", " + b + ", " + is + ")", x.bar(e, b, is), m.bar(e, b, is));
            }
            if (d < 72 && dice.nextInt(3) == 0) {
                return check("pair()", x.pair(), m.pair()) && everyPair();
            }
            if (d < 76) {
                return check("elderOf(" + b + ")", x.elderOf(b), m.elderOf(b));
            }
            if (d < 80) {
                return check("has(" + e + ")", x.has(e), m.has(e));
            }
            if (d < 84) {
                return check("blocks()", x.blocks(), m.blocks());
            }
            if (d < 90) {
                return check("block(" + e + ", " + b + ")", x.block(e, b), m.block(e, b));
            }
            int moved = m.change(b);
            if (moved > 0) {
                rowsSeen[moved]++;
            }
            return check("change(" + b + ")", x.change(b), moved) && everyPair();
        }

        boolean everyPair() {
            boolean fine = true;
            int kept = m.status;
            for (int b = 0; b < m.beginners; b++) {
                int got = x.elderOf(b);
                int due = m.elderOf(b);
                fine &= got == due && x.status() == m.status;
            }
            m.status = kept;
            return fine || tellWrong("the pairs after it");
        }

        boolean days() {
            int b = anyBeginner();
            int day = dice.nextInt(20) == 0 ? pick(9999) : 3 + dice.nextInt(9);
            switch (dice.nextInt(7)) {
                case 0: {
                    return check("meeting(" + b + ", " + day + ")", x.meeting(b, day), m.meeting(b, day));
                }
                case 1: case 2: {
                    int g = pick(m.meetingBeginner.size() - 1);
                    boolean kept = dice.nextBoolean();
                    return check("tell(" + g + ", " + kept + ", " + day + ")", x.tell(g, kept, day), m.tell(g, kept, day));
                }
                case 3: {
                    int what = pick(2);
                    return check("met(" + b + ", " + day + ", " + what + ")", x.met(b, day, what), m.met(b, day, what));
                }
                case 4: {
                    int behind = dice.nextInt(3) == 0 ? -1 : pick(m.goalBeginner.size() - 1);
                    return check("goal(" + b + ", " + day + ", " + behind + ")", x.goal(b, day, behind), m.goal(b, day, behind));
                }
                case 5: {
                    int g = pick(m.goalBeginner.size() - 1);
                    return check("confirm(" + g + ", " + day + ")", x.confirm(g, day), m.confirm(g, day));
                }
                default: {
                    int g = pick(m.goalBeginner.size() - 1);
                    return check("goalAt(" + g + ", " + day + ")", x.goalAt(g, day), m.goalAt(g, day));
                }
            }
        }

        boolean lasting() {
            int months = dice.nextInt(4) == 0 ? pick(60) : dice.nextInt(12);
            if (dice.nextInt(40) == 0) {
                return check("clear()", x.clear(), m.clear());
            }
            if (dice.nextBoolean()) {
                boolean ended = dice.nextInt(3) > 0;
                return check("run(" + months + ", " + ended + ")", x.run(months, ended), m.run(months, ended));
            }
            return check("lasts(" + months + ")", x.lasts(months), m.lasts(months));
        }

        boolean trialsAndTrays() {
            int t = pick(3);
            int many = dice.nextInt(4) == 0 ? pick(40) : dice.nextInt(9);
            int place = dice.nextInt(9) == 0 ? pick(40) : dice.nextInt(8);
            switch (dice.nextInt(9)) {
                case 0: {
                    int sort = dice.nextInt(3) > 0 ? 0 : pick(3);
                    return dice.nextInt(3) > 0 || check("tray(" + t + ", " + sort + ", " + many + ")", x.tray(t, sort, many), m.tray(t, sort, many));
                }
                case 1: case 2: {
                    long v = dice.nextInt(12) == 0 ? dice.nextLong() : dice.nextInt(6);
                    return check("write(" + t + ", " + place + ", " + v + ")", x.write(t, place, v), m.write(t, place, v));
                }
                case 3: {
                    return check("read(" + t + ", " + place + ")", x.read(t, place), m.read(t, place));
                }
                case 4: {
                    int to = pick(3);
                    int j = pick(9);
                    return check("pour(" + t + ", " + place + ", " + to + ", " + j + ", " + many + ")",
                            x.pour(t, place, to, j, many), m.pour(t, place, to, j, many));
                }
                case 5: case 6: {
                    int n = dice.nextInt(10) == 0 ? pick(16) : 2 + dice.nextInt(6);
                    int helped = pick((1 << Math.min(16, Math.max(1, n))) - 1);
                    return check("gain(" + t + ", " + n + ", " + helped + ")", x.gain(t, n, helped), m.gain(t, n, helped));
                }
                case 7: {
                    int n = dice.nextInt(10) == 0 ? pick(16) : 2 + dice.nextInt(6);
                    int helped = pick((1 << Math.min(16, Math.max(1, n))) - 1);
                    return check("chance(" + t + ", " + n + ", " + helped + ")", x.chance(t, n, helped), m.chance(t, n, helped));
                }
                default: {
                    int n = pick(16);
                    int k = pick(Math.min(n, 16));
                    int seed = dice.nextInt(9) == 0 ? pick(5) : dice.nextInt() & Integer.MAX_VALUE;
                    return check("draw(" + n + ", " + k + ", " + seed + ")", x.draw(n, k, seed), m.draw(n, k, seed));
                }
            }
        }

        boolean check(String call, boolean got, long due) {
            return check(call, got ? 1L : 0L, due);
        }

        boolean check(String call, long got, long due) {
            log.append(call).append('\n');
            statusSeen[m.status]++;
            boolean fine = got == due && same(x, m);
            return fine || tellWrong(call + " answered " + got + " with status " + x.status() + ", due is " + due + " with " + m.status);
        }

        boolean tellWrong(String what) {
            wrong++;
            System.out.println("run " + number + ": " + what);
            if (wrong == 1) {
                System.out.println(log);
            }
            return false;
        }
    }

    /** The document, literally; a boolean answer is 1 or 0. */
    private static final class Model {
        final boolean small;
        int status = 0;
        BigInteger upper = BigInteger.ZERO;
        BigInteger lower = BigInteger.ONE;
        final int[] sorts = new int[4];
        final long[][] rows = new long[4][];
        final List<Integer> places = new ArrayList<>();
        int beginners = 0;
        final int[][] elderLikes = new int[12][16];
        final int[][] beginnerLikes = new int[12][16];
        final boolean[][] barred = new boolean[12][16];
        int[] given = null;
        final List<Integer> meetingBeginner = new ArrayList<>();
        final List<Integer> meetingDue = new ArrayList<>();
        final List<int[]> tellings = new ArrayList<>();
        final List<Integer> goalBeginner = new ArrayList<>();
        final List<Integer> goalDue = new ArrayList<>();
        final List<Integer> goalBehind = new ArrayList<>();
        final List<Integer> goalDay = new ArrayList<>();
        final List<int[]> runs = new ArrayList<>();

        Model(boolean small) {
            this.small = small;
        }

        int no(int s) {
            status = s;
            return -1;
        }

        int bad(int s) {
            status = s;
            return 0;
        }

        int yes(int answer) {
            status = 0;
            return answer;
        }

        static boolean in(int v, int from, int to) {
            return v >= from && v <= to;
        }

        // trays

        int tray(int t, int sort, int many) {
            if (!in(t, 0, 3) || !in(sort, 0, 3)) return bad(1);
            if (many > 40) return bad(5);
            if (many < 0) return bad(6);
            sorts[t] = sort;
            rows[t] = new long[many];
            return yes(1);
        }

        int write(int t, int place, long v) {
            if (!in(t, 0, 3)) return bad(1);
            if (rows[t] == null) return bad(3);
            if (!in(place, 0, rows[t].length - 1)) return bad(4);
            int bits = 8 << sorts[t];
            BigInteger all = BigInteger.ONE.shiftLeft(bits);
            BigInteger rest = BigInteger.valueOf(v).mod(all);
            rows[t][place] = (rest.testBit(bits - 1) ? rest.subtract(all) : rest).longValueExact();
            return yes(1);
        }

        long read(int t, int place) {
            if (!in(t, 0, 3)) return no(1);
            if (rows[t] == null) return no(3);
            if (!in(place, 0, rows[t].length - 1)) return no(4);
            status = 0;
            return rows[t][place];
        }

        int pour(int t, int i, int to, int j, int many) {
            if (!in(t, 0, 3) || !in(to, 0, 3)) return bad(1);
            if (rows[t] == null || rows[to] == null) return bad(3);
            if (sorts[t] != sorts[to]) return bad(11);
            if (many < 0) return bad(6);
            if (i < 0 || j < 0 || (long) i + many > rows[t].length || (long) j + many > rows[to].length) return bad(4);
            long[] were = rows[t].clone();
            for (int k = 0; k < many; k++) rows[to][j + k] = were[i + k];
            return yes(1);
        }

        // pairs

        boolean noElder(int e) {
            return !in(e, 0, places.size() - 1);
        }

        boolean noBeginner(int b) {
            return !in(b, 0, beginners - 1);
        }

        int elder(int p) {
            if (!in(p, 0, 4)) return no(5);
            if (places.size() == 12) return no(7);
            places.add(p);
            return yes(places.size() - 1);
        }

        int beginner() {
            if (beginners == 16) return no(7);
            return yes(beginners++);
        }

        int places(int e, int p) {
            if (noElder(e)) return bad(2);
            if (!in(p, 0, 4)) return bad(5);
            places.set(e, p);
            return yes(1);
        }

        int like(int e, int b, boolean byElder, int much) {
            if (noElder(e) || noBeginner(b)) return bad(2);
            if (!in(much, 0, 100)) return bad(5);
            (byElder ? elderLikes : beginnerLikes)[e][b] = much;
            return yes(1);
        }

        int bar(int e, int b, boolean is) {
            if (noElder(e) || noBeginner(b)) return bad(2);
            if (barred[e][b] == is) return bad(8);
            barred[e][b] = is;
            return yes(1);
        }

        boolean can(int e, int b) {
            return elderLikes[e][b] > 0 && beginnerLikes[e][b] > 0 && !barred[e][b];
        }

        boolean beginnerWants(int b, int e, int than) {
            if (than < 0) return can(e, b);
            if (beginnerLikes[e][b] != beginnerLikes[than][b]) return beginnerLikes[e][b] > beginnerLikes[than][b];
            return e < than;
        }

        boolean elderWants(int e, int b, int than) {
            if (elderLikes[e][b] != elderLikes[e][than]) return elderLikes[e][b] > elderLikes[e][than];
            return b < than;
        }

        List<Integer> of(int[] pairing, int e) {
            List<Integer> list = new ArrayList<>();
            for (int b = 0; b < beginners; b++) if (pairing[b] == e) list.add(b);
            return list;
        }

        boolean blocking(int[] pairing, int e, int b) {
            if (!can(e, b) || pairing[b] == e || !beginnerWants(b, e, pairing[b])) return false;
            List<Integer> theirs = of(pairing, e);
            if (theirs.size() < places.get(e)) return true;
            for (int other : theirs) if (elderWants(e, b, other)) return true;
            return false;
        }

        int countBlocking(int[] pairing) {
            int count = 0;
            for (int e = 0; e < places.size(); e++) for (int b = 0; b < beginners; b++) if (blocking(pairing, e, b)) count++;
            return count;
        }

        int pair() {
            given = small ? bestOfAll() : bestByRounds();
            int count = 0;
            for (int b = 0; b < 16; b++) if (given[b] >= 0) count++;
            return yes(count);
        }

        /** Tries every pairing there is; the best of the stable ones must be better for each beginner. */
        int[] bestOfAll() {
            List<int[]> stable = new ArrayList<>();
            int[] pairing = new int[16];
            Arrays.fill(pairing, -1);
            collect(0, pairing, stable);
            for (int[] s : stable) {
                boolean best = true;
                for (int[] other : stable) {
                    for (int b = 0; b < beginners; b++) {
                        boolean better = other[b] != s[b] && other[b] >= 0 && (s[b] < 0 || beginnerWants(b, other[b], s[b]));
                        best &= !better;
                    }
                }
                if (best) return s;
            }
            throw new IllegalStateException("no best pairing");
        }

        void collect(int b, int[] pairing, List<int[]> stable) {
            if (b == beginners) {
                if (countBlocking(pairing) == 0) stable.add(pairing.clone());
                return;
            }
            for (int e = -1; e < places.size(); e++) {
                if (e >= 0 && (!can(e, b) || of(pairing, e).size() >= places.get(e))) continue;
                pairing[b] = e;
                collect(b + 1, pairing, stable);
                pairing[b] = -1;
            }
        }

        /** All ask at once, round by round; too many pairings to try them all. */
        int[] bestByRounds() {
            boolean[][] refused = new boolean[12][16];
            while (true) {
                int[] asks = new int[16];
                Arrays.fill(asks, -1);
                for (int b = 0; b < beginners; b++) {
                    for (int e = 0; e < places.size(); e++) {
                        if (can(e, b) && !refused[e][b] && beginnerWants(b, e, asks[b])) asks[b] = e;
                    }
                }
                boolean any = false;
                for (int e = 0; e < places.size(); e++) {
                    List<Integer> askers = of(asks, e);
                    for (int b : askers) {
                        int ahead = 0;
                        for (int other : askers) if (other != b && elderWants(e, other, b)) ahead++;
                        if (ahead >= places.get(e)) {
                            refused[e][b] = true;
                            any = true;
                        }
                    }
                }
                if (!any) {
                    if (countBlocking(asks) != 0) throw new IllegalStateException("not stable");
                    return asks;
                }
            }
        }

        int elderOf(int b) {
            if (noBeginner(b)) return no(2);
            if (given == null) return no(10);
            return given[b] < 0 ? no(9) : yes(given[b]);
        }

        int has(int e) {
            if (noElder(e)) return no(2);
            if (given == null) return no(10);
            return yes(of(given, e).size());
        }

        int blocks() {
            return given == null ? no(10) : yes(countBlocking(given));
        }

        int block(int e, int b) {
            if (noElder(e) || noBeginner(b)) return no(2);
            if (given == null) return no(10);
            return yes(blocking(given, e, b) ? 1 : 0);
        }

        int change(int b) {
            if (noBeginner(b)) return no(2);
            if (given == null) return no(10);
            if (given[b] < 0) return no(9);
            boolean was = barred[given[b]][b];
            int from = given[b];
            barred[from][b] = true;
            List<int[]> row = small ? shortestOfAll(b) : shortestByDistance(b);
            if (row == null) {
                barred[from][b] = was;
                return no(12);
            }
            int mover = b;
            for (int[] step : row) {
                int next = step[1];
                given[mover] = step[0];
                mover = next;
            }
            return yes(row.size());
        }

        boolean free(int e, int first) {
            int count = of(given, e).size() - (given[first] == e ? 1 : 0);
            return count < places.get(e);
        }

        /** Tries every row, the shorter ones ahead, those of one length in their order. */
        List<int[]> shortestOfAll(int b) {
            for (int length = 1; length <= beginners; length++) {
                List<int[]> row = new ArrayList<>();
                TreeSet<Integer> used = new TreeSet<>(Collections.singleton(b));
                if (extend(b, b, length, row, used)) return row;
            }
            return null;
        }

        boolean extend(int first, int mover, int left, List<int[]> row, TreeSet<Integer> used) {
            for (int e = 0; e < places.size(); e++) {
                if (e == given[mover] || !can(e, mover)) continue;
                if (left == 1) {
                    if (!free(e, first)) continue;
                    row.add(new int[] {e, -1});
                    return true;
                }
                for (int leaver : of(given, e)) {
                    if (!used.add(leaver)) continue;
                    row.add(new int[] {e, leaver});
                    if (extend(first, leaver, left - 1, row, used)) return true;
                    row.remove(row.size() - 1);
                    used.remove(leaver);
                }
            }
            return false;
        }

        /** From the free places backwards: how many moves each is away; then forwards by the least steps. */
        List<int[]> shortestByDistance(int b) {
            int far = 99;
            int[] away = new int[16];
            Arrays.fill(away, far);
            for (int round = 0; round <= 16; round++) {
                for (int c = 0; c < beginners; c++) {
                    if (given[c] < 0) continue;
                    for (int e = 0; e < places.size(); e++) {
                        if (e == given[c] || !can(e, c)) continue;
                        if (free(e, b)) away[c] = 1;
                        for (int leaver : of(given, e)) away[c] = Math.min(away[c], away[leaver] + 1);
                    }
                }
            }
            if (away[b] >= far) return null;
            List<int[]> row = new ArrayList<>();
            int mover = b;
            while (mover >= 0) {
                int[] step = null;
                for (int e = 0; e < places.size() && step == null; e++) {
                    if (e == given[mover] || !can(e, mover)) continue;
                    if (away[mover] == 1) {
                        if (free(e, b)) step = new int[] {e, -1};
                        continue;
                    }
                    for (int leaver : of(given, e)) {
                        if (away[leaver] == away[mover] - 1) {
                            step = new int[] {e, leaver};
                            break;
                        }
                    }
                }
                row.add(step);
                mover = step[1];
            }
            return row;
        }

        // meetings, goals

        int meeting(int b, int due) {
            if (noBeginner(b)) return no(2);
            if (!in(due, 0, 9999)) return no(5);
            if (meetingBeginner.size() == 100) return no(7);
            meetingBeginner.add(b);
            meetingDue.add(due);
            return yes(meetingBeginner.size() - 1);
        }

        int tell(int g, boolean kept, int day) {
            if (!in(g, 0, meetingBeginner.size() - 1)) return bad(2);
            if (!in(day, 0, 9999) || day < meetingDue.get(g)) return bad(5);
            if (tellings.size() == 200) return bad(7);
            tellings.add(new int[] {g, kept ? 0 : 1, day});
            return yes(1);
        }

        int met(int b, int day, int what) {
            if (noBeginner(b)) return no(2);
            if (!in(day, 0, 9999) || !in(what, 0, 2)) return no(5);
            int count = 0;
            for (int g = 0; g < meetingBeginner.size(); g++) {
                if (meetingBeginner.get(g) != b || meetingDue.get(g) > day) continue;
                List<int[]> byDay = new ArrayList<>(tellings);
                byDay.sort(Comparator.comparingInt(t -> t[2])); // keeps the calls' order within a day
                int known = 2;
                for (int[] t : byDay) if (t[0] == g && t[2] <= day) known = t[1];
                if (known == what) count++;
            }
            return yes(count);
        }

        int goal(int b, int due, int behind) {
            if (noBeginner(b)) return no(2);
            if (behind != -1 && (!in(behind, 0, goalBeginner.size() - 1) || goalBeginner.get(behind) != b)) return no(2);
            if (!in(due, 0, 9999)) return no(5);
            if (goalBeginner.size() == 40) return no(7);
            goalBeginner.add(b);
            goalDue.add(due);
            goalBehind.add(behind);
            goalDay.add(-1);
            return yes(goalBeginner.size() - 1);
        }

        int confirm(int g, int day) {
            if (!in(g, 0, goalBeginner.size() - 1)) return bad(2);
            if (!in(day, 0, 9999)) return bad(5);
            if (goalDay.get(g) >= 0) return bad(8);
            goalDay.set(g, day);
            return yes(1);
        }

        boolean reached(int g, int day) {
            int on = goalDay.get(g);
            if (on < 0 || on > day || on > goalDue.get(g)) return false;
            return goalBehind.get(g) < 0 || reached(goalBehind.get(g), on);
        }

        int goalAt(int g, int day) {
            if (!in(g, 0, goalBeginner.size() - 1)) return no(2);
            if (!in(day, 0, 9999)) return no(5);
            return yes(reached(g, day) ? 1 : day > goalDue.get(g) ? 2 : 0);
        }

        // lasting

        int run(int months, boolean ended) {
            if (!in(months, 1, 60)) return bad(5);
            if (runs.size() == 16) return bad(7);
            runs.add(new int[] {months, ended ? 1 : 0});
            return yes(1);
        }

        int clear() {
            runs.clear();
            return yes(1);
        }

        int lasts(int m) {
            if (!in(m, 0, 60)) return bad(5);
            if (runs.isEmpty()) return bad(9);
            TreeSet<Integer> months = new TreeSet<>();
            for (int[] r : runs) if (r[1] == 1 && r[0] <= m) months.add(r[0]);
            BigInteger u = BigInteger.ONE;
            BigInteger l = BigInteger.ONE;
            for (int t : months) {
                int ended = 0;
                int risk = 0;
                for (int[] r : runs) {
                    if (r[1] == 1 && r[0] == t) ended++;
                    if (r[0] >= t) risk++;
                }
                u = u.multiply(BigInteger.valueOf(risk - ended));
                l = l.multiply(BigInteger.valueOf(risk));
            }
            fraction(u, l);
            return yes(1);
        }

        void fraction(BigInteger u, BigInteger l) {
            BigInteger g = u.gcd(l);
            upper = u.divide(g);
            lower = l.divide(g);
        }

        // trials

        int trialFault(int t, int n, int helped) {
            if (!in(t, 0, 3)) return 1;
            if (rows[t] == null) return 3;
            if (!in(n, 2, 16)) return 5;
            if (n > rows[t].length) return 4;
            if (helped < 1 || helped >> n != 0 || Integer.bitCount(helped) == n) return 5;
            for (int i = 0; i < n; i++) if (rows[t][i] < 0 || rows[t][i] > 100) return 5;
            return 0;
        }

        /** Upper and lower number of the gain, the lower one above 0. */
        long[] gainOf(int t, int n, int set) {
            long in = 0;
            long out = 0;
            long k = 0;
            for (int i = 0; i < n; i++) {
                if ((set >> i & 1) == 1) {
                    in += rows[t][i];
                    k++;
                } else {
                    out += rows[t][i];
                }
            }
            return new long[] {in * (n - k) - out * k, k * (n - k)};
        }

        int gain(int t, int n, int helped) {
            int fault = trialFault(t, n, helped);
            if (fault != 0) return bad(fault);
            long[] g = gainOf(t, n, helped);
            fraction(BigInteger.valueOf(g[0]), BigInteger.valueOf(g[1]));
            return yes(1);
        }

        int chance(int t, int n, int helped) {
            int fault = trialFault(t, n, helped);
            if (fault != 0) return bad(fault);
            long[] g = gainOf(t, n, helped);
            int all = 0;
            int notLess = 0;
            for (int set = 1; set < 1 << n; set++) {
                if (Integer.bitCount(set) != Integer.bitCount(helped)) continue;
                all++;
                long[] other = gainOf(t, n, set);
                if (other[0] * g[1] >= g[0] * other[1]) notLess++;
            }
            fraction(BigInteger.valueOf(notLess), BigInteger.valueOf(all));
            return yes(1);
        }

        int draw(int n, int k, int seed) {
            if (!in(n, 1, 16) || !in(k, 0, n) || seed < 0) return no(5);
            BigInteger s = BigInteger.valueOf(seed);
            int set = 0;
            for (int i = 0; i < n; i++) {
                s = s.multiply(BigInteger.valueOf(1103515245)).add(BigInteger.valueOf(12345)).mod(BigInteger.TWO.pow(31));
                int lot = s.divide(BigInteger.valueOf(65536)).intValueExact();
                if (lot % (n - i) < k - Integer.bitCount(set)) set |= 1 << i;
            }
            return yes(set);
        }
    }
}
