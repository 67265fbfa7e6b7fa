import java.util.function.BooleanSupplier;
import java.util.function.LongSupplier;

/**
 * A MentorPairs whose calls are counted and remembered, beside a twin that hears only the calls that
 * were done. So a refused call that leaves a trace shows as a later answer in which the two differ.
 */
final class House {
    // Nothing is promised about an object after its 512th call.
    private static final int MOST_CALLS = 512;
    private static final int LAST_DAY = 9_999;

    private final MentorPairs pairs = new MentorPairs();
    private final MentorPairs twin = new MentorPairs();
    private int calls = 0;
    private String latest = "new MentorPairs()";
    private int latestStatus = 0;

    String latest() {
        return latest;
    }

    int latestStatus() {
        return latestStatus;
    }

    // ---- the calls

    int status() {
        count(1);
        return pairs.status();
    }

    long upper() {
        count(1);
        return same("upper()", pairs.upper(), twin.upper());
    }

    long lower() {
        count(1);
        return same("lower()", pairs.lower(), twin.lower());
    }

    boolean tray(int tray, int sort, int many) {
        return done(text("tray", tray, sort, many), pairs.tray(tray, sort, many), () -> twin.tray(tray, sort, many));
    }

    boolean write(int tray, int place, long v) {
        return done(text("write", tray, place, v), pairs.write(tray, place, v), () -> twin.write(tray, place, v));
    }

    long read(int tray, int place) {
        return answered(text("read", tray, place), pairs.read(tray, place), () -> twin.read(tray, place));
    }

    boolean pour(int tray, int i, int to, int j, int many) {
        return done(text("pour", tray, i, to, j, many), pairs.pour(tray, i, to, j, many), () -> twin.pour(tray, i, to, j, many));
    }

    long elder(int places) {
        return answered(text("elder", places), pairs.elder(places), () -> twin.elder(places));
    }

    long beginner() {
        return answered(text("beginner"), pairs.beginner(), twin::beginner);
    }

    boolean places(int elder, int places) {
        return done(text("places", elder, places), pairs.places(elder, places), () -> twin.places(elder, places));
    }

    boolean like(int elder, int beginner, boolean byElder, int much) {
        return done(text("like", elder, beginner, byElder, much), pairs.like(elder, beginner, byElder, much),
                () -> twin.like(elder, beginner, byElder, much));
    }

    boolean bar(int elder, int beginner, boolean is) {
        return done(text("bar", elder, beginner, is), pairs.bar(elder, beginner, is), () -> twin.bar(elder, beginner, is));
    }

    long pair() {
        return answered(text("pair"), pairs.pair(), twin::pair);
    }

    long elderOf(int beginner) {
        return answered(text("elderOf", beginner), pairs.elderOf(beginner), () -> twin.elderOf(beginner));
    }

    long has(int elder) {
        return answered(text("has", elder), pairs.has(elder), () -> twin.has(elder));
    }

    long blocks() {
        return answered(text("blocks"), pairs.blocks(), twin::blocks);
    }

    long block(int elder, int beginner) {
        return answered(text("block", elder, beginner), pairs.block(elder, beginner), () -> twin.block(elder, beginner));
    }

    long change(int beginner) {
        return answered(text("change", beginner), pairs.change(beginner), () -> twin.change(beginner));
    }

    long meeting(int beginner, int due) {
        return answered(text("meeting", beginner, due), pairs.meeting(beginner, due), () -> twin.meeting(beginner, due));
    }

    boolean tell(int meeting, boolean kept, int day) {
        return done(text("tell", meeting, kept, day), pairs.tell(meeting, kept, day), () -> twin.tell(meeting, kept, day));
    }

    long met(int beginner, int day, int what) {
        return answered(text("met", beginner, day, what), pairs.met(beginner, day, what), () -> twin.met(beginner, day, what));
    }

    long goal(int beginner, int due, int behind) {
        return answered(text("goal", beginner, due, behind), pairs.goal(beginner, due, behind), () -> twin.goal(beginner, due, behind));
    }

    boolean confirm(int goal, int day) {
        return done(text("confirm", goal, day), pairs.confirm(goal, day), () -> twin.confirm(goal, day));
    }

    long goalAt(int goal, int day) {
        return answered(text("goalAt", goal, day), pairs.goalAt(goal, day), () -> twin.goalAt(goal, day));
    }

    boolean run(int months, boolean ended) {
        return done(text("run", months, ended), pairs.run(months, ended), () -> twin.run(months, ended));
    }

    boolean clear() {
        return done(text("clear"), pairs.clear(), twin::clear);
    }

    boolean lasts(int m) {
        return done(text("lasts", m), pairs.lasts(m), () -> twin.lasts(m));
    }

    boolean gain(int tray, int n, int helped) {
        return done(text("gain", tray, n, helped), pairs.gain(tray, n, helped), () -> twin.gain(tray, n, helped));
    }

    boolean chance(int tray, int n, int helped) {
        return done(text("chance", tray, n, helped), pairs.chance(tray, n, helped), () -> twin.chance(tray, n, helped));
    }

    long draw(int n, int k, int seed) {
        return answered(text("draw", n, k, seed), pairs.draw(n, k, seed), () -> twin.draw(n, k, seed));
    }

    // ---- what becomes of a call

    private static String text(String name, Object... arguments) {
        StringBuilder text = new StringBuilder(name).append('(');
        for (int i = 0; i < arguments.length; i++) {
            text.append(i == 0 ? "" : ", ").append(arguments[i]);
        }
        return text.append(')').toString();
    }

    private boolean done(String call, boolean got, BooleanSupplier onTwin) {
        return answered(call, got ? 1 : 0, () -> onTwin.getAsBoolean() ? 1 : 0) == 1;
    }

    private long answered(String call, long got, LongSupplier onTwin) {
        latest = call;
        latestStatus = pairs.status();
        count(2);
        if (latestStatus == 0) {
            same(call, got, onTwin.getAsLong());
            same(call + ", status()", 0, twin.status());
        }
        return got;
    }

    private void count(int more) {
        calls += more;
        if (calls > MOST_CALLS) {
            Checks.fault("the test itself: more than " + MOST_CALLS + " calls of one object, at " + latest);
        }
    }

    private long same(String call, long got, long ofTwin) {
        if (got != ofTwin) {
            Checks.fault(call + " answered " + got + ", but " + ofTwin + " without the calls that were refused");
        }
        return got;
    }

    // ---- the end of a house

    /** Asks both for all that can be asked, as far as the calls reach. */
    void compareWithTwin() {
        probe("upper()", pairs::upper, twin::upper);
        probe("lower()", pairs::lower, twin::lower);
        comparePairs();
        probe("lasts(60)", () -> pairs.lasts(60) ? 1 : 0, () -> twin.lasts(60) ? 1 : 0);
        probe("upper()", pairs::upper, twin::upper);
        probe("lower()", pairs::lower, twin::lower);
        compareMeetingsAndGoals();
        compareTrays();
        probe("pair()", pairs::pair, twin::pair);
        comparePairs();
        probe("elder(1)", () -> pairs.elder(1), () -> twin.elder(1));
        probe("beginner()", pairs::beginner, twin::beginner);
        probe("meeting(0, 0)", () -> pairs.meeting(0, 0), () -> twin.meeting(0, 0));
        probe("goal(0, 0, -1)", () -> pairs.goal(0, 0, -1), () -> twin.goal(0, 0, -1));
        probe("run(1, true)", () -> pairs.run(1, true) ? 1 : 0, () -> twin.run(1, true) ? 1 : 0);
    }

    private void probe(String call, LongSupplier here, LongSupplier onTwin) {
        if (calls < MOST_CALLS) {
            calls++;
            same("in the end " + call, here.getAsLong(), onTwin.getAsLong());
        }
    }

    private void comparePairs() {
        probe("blocks()", pairs::blocks, twin::blocks);
        for (int b = 0; b < 16; b++) {
            int beginner = b;
            probe(text("elderOf", b), () -> pairs.elderOf(beginner), () -> twin.elderOf(beginner));
        }
        for (int e = 0; e < 12; e++) {
            int elder = e;
            probe(text("has", e), () -> pairs.has(elder), () -> twin.has(elder));
        }
    }

    private void compareMeetingsAndGoals() {
        for (int b = 0; b < 16; b++) {
            int beginner = b;
            for (int w = 0; w < 2; w++) {
                int what = w;
                probe(text("met", b, LAST_DAY, w), () -> pairs.met(beginner, LAST_DAY, what), () -> twin.met(beginner, LAST_DAY, what));
            }
        }
        for (int g = 0; g < 40; g++) {
            int goal = g;
            probe(text("goalAt", g, LAST_DAY), () -> pairs.goalAt(goal, LAST_DAY), () -> twin.goalAt(goal, LAST_DAY));
        }
    }

    private void compareTrays() {
        for (int t = 0; t < 4; t++) {
            int tray = t;
            for (int place : new int[] {0, 1, 2, 3, 4, 39}) {
                probe(text("read", t, place), () -> pairs.read(tray, place), () -> twin.read(tray, place));
            }
        }
    }
}
