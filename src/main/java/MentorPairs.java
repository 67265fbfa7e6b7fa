import java.util.Arrays;

/** A house that pairs elders with beginners; ../shared/DOC.md tells what each call promises. */
public final class MentorPairs {
    public static final int NONE = -1;

    private static final int DONE = 0;
    private static final int NO_TRAY = 1;
    private static final int NO_SUCH_ONE = 2;
    private static final int TRAY_MISSING = 3;
    private static final int NO_PLACE = 4;
    private static final int BAD_NUMBER = 5;
    private static final int BELOW_ZERO = 6;
    private static final int ONE_TOO_MANY = 7;
    private static final int SO_ALREADY = 8;
    private static final int NONE_SUCH = 9;
    private static final int NONE_GIVEN = 10;
    private static final int UNLIKE_SORTS = 11;
    private static final int CANT_BE_DONE = 12;

    private static final int TRAYS = 4;
    private static final int SORTS = 4;
    private static final int MOST_NUMBERS = 40;
    private static final int MOST_ELDERS = 12;
    private static final int MOST_BEGINNERS = 16;
    private static final int MOST_PLACES = 4;
    private static final int MOST_LIKING = 100;
    private static final int LAST_DAY = 9_999;
    private static final int MOST_MEETINGS = 100;
    private static final int MOST_TELLINGS = 200;
    private static final int KEPT = 0;
    private static final int SLIPPED = 1;
    private static final int UNKNOWN = 2;
    private static final int MOST_GOALS = 40;
    private static final int OPEN = 0;
    private static final int REACHED = 1;
    private static final int MISSED = 2;
    private static final int MOST_RUNS = 16;
    private static final int MOST_MONTHS = 60;
    private static final int LEAST_IN_TRIAL = 2;
    private static final int MOST_IN_TRIAL = 16;
    private static final int MOST_OUTCOME = 100;

    private final Tray[] trays = new Tray[TRAYS];
    private final Circle circle = new Circle();
    private final Pairing pairing = new Pairing();
    private final Row row = new Row();
    private final Meetings meetings = new Meetings();
    private final Goals goals = new Goals();
    private final Runs runs = new Runs();
    private final Trial trial = new Trial();
    private final Fraction fraction = new Fraction();
    private int latest = DONE;

    public MentorPairs() {
        for (int t = 0; t < TRAYS; t++) {
            trays[t] = new Tray();
        }
    }

    public int status() {
        return latest;
    }

    // ---- TRAYS

    public boolean tray(int tray, int sort, int many) {
        if (!isTray(tray) || sort < 0 || sort >= SORTS) {
            return finish(NO_TRAY);
        }
        if (many > MOST_NUMBERS) {
            return finish(BAD_NUMBER);
        }
        if (many < 0) {
            return finish(BELOW_ZERO);
        }
        trays[tray].make(sort, many);
        return finish(DONE);
    }

    public boolean write(int tray, int place, long v) {
        int found = placeFault(tray, place);
        if (found == DONE) {
            trays[tray].put(place, v);
        }
        return finish(found);
    }

    public long read(int tray, int place) {
        int found = placeFault(tray, place);
        finish(found);
        return found == DONE ? trays[tray].numbers[place] : NONE;
    }

    public boolean pour(int tray, int i, int to, int j, int many) {
        int found = pourFault(tray, i, to, j, many);
        if (found == DONE) {
            System.arraycopy(trays[tray].numbers, i, trays[to].numbers, j, many);
        }
        return finish(found);
    }

    // ---- pairs

    public int elder(int places) {
        if (!isPlaces(places)) {
            return refused(BAD_NUMBER);
        }
        if (circle.elders >= MOST_ELDERS) {
            return refused(ONE_TOO_MANY);
        }
        return answered(circle.addElder(places));
    }

    public int beginner() {
        if (circle.beginners >= MOST_BEGINNERS) {
            return refused(ONE_TOO_MANY);
        }
        return answered(circle.addBeginner());
    }

    public boolean places(int elder, int places) {
        if (!circle.isElder(elder)) {
            return finish(NO_SUCH_ONE);
        }
        if (!isPlaces(places)) {
            return finish(BAD_NUMBER);
        }
        circle.placesOf[elder] = places;
        return finish(DONE);
    }

    public boolean like(int elder, int beginner, boolean byElder, int much) {
        if (!circle.areTwo(elder, beginner)) {
            return finish(NO_SUCH_ONE);
        }
        if (much < 0 || much > MOST_LIKING) {
            return finish(BAD_NUMBER);
        }
        circle.setLiking(elder, beginner, byElder, much);
        return finish(DONE);
    }

    public boolean bar(int elder, int beginner, boolean is) {
        if (!circle.areTwo(elder, beginner)) {
            return finish(NO_SUCH_ONE);
        }
        if (circle.isBarred(elder, beginner) == is) {
            return finish(SO_ALREADY);
        }
        circle.setBarred(elder, beginner, is);
        return finish(DONE);
    }

    public int pair() {
        return answered(pairing.makeBest(circle));
    }

    public int elderOf(int beginner) {
        int found = pairedFault(beginner);
        return found == DONE ? answered(pairing.elderBy[beginner]) : refused(found);
    }

    public int has(int elder) {
        if (!circle.isElder(elder)) {
            return refused(NO_SUCH_ONE);
        }
        if (!pairing.given) {
            return refused(NONE_GIVEN);
        }
        return answered(pairing.countOf(elder));
    }

    public int blocks() {
        if (!pairing.given) {
            return refused(NONE_GIVEN);
        }
        return answered(pairing.countBlocking(circle));
    }

    public int block(int elder, int beginner) {
        if (!circle.areTwo(elder, beginner)) {
            return refused(NO_SUCH_ONE);
        }
        if (!pairing.given) {
            return refused(NONE_GIVEN);
        }
        return answered(pairing.isBlockedBy(circle, elder, beginner) ? 1 : 0);
    }

    public int change(int beginner) {
        int found = pairedFault(beginner);
        if (found != DONE) {
            return refused(found);
        }
        int left = pairing.elderBy[beginner];
        int last = row.findLast(circle, pairing, beginner);
        if (last == NONE) {
            return refused(CANT_BE_DONE);
        }
        circle.setBarred(left, beginner, true);
        return answered(row.moveAll(pairing, last));
    }

    // ---- meetings, goals

    public int meeting(int beginner, int due) {
        if (!circle.isBeginner(beginner)) {
            return refused(NO_SUCH_ONE);
        }
        if (!isDay(due)) {
            return refused(BAD_NUMBER);
        }
        if (meetings.many >= MOST_MEETINGS) {
            return refused(ONE_TOO_MANY);
        }
        return answered(meetings.add(beginner, due));
    }

    public boolean tell(int meeting, boolean kept, int day) {
        if (!meetings.isMeeting(meeting)) {
            return finish(NO_SUCH_ONE);
        }
        if (!isDay(day) || day < meetings.dueOn[meeting]) {
            return finish(BAD_NUMBER);
        }
        if (meetings.tellings >= MOST_TELLINGS) {
            return finish(ONE_TOO_MANY);
        }
        meetings.addTelling(meeting, kept, day);
        return finish(DONE);
    }

    public int met(int beginner, int day, int what) {
        if (!circle.isBeginner(beginner)) {
            return refused(NO_SUCH_ONE);
        }
        if (!isDay(day) || what < KEPT || what > UNKNOWN) {
            return refused(BAD_NUMBER);
        }
        return answered(meetings.count(beginner, day, what));
    }

    public int goal(int beginner, int due, int behind) {
        if (!circle.isBeginner(beginner)) {
            return refused(NO_SUCH_ONE);
        }
        if (behind != NONE && !goals.isGoalOf(behind, beginner)) {
            return refused(NO_SUCH_ONE);
        }
        if (!isDay(due)) {
            return refused(BAD_NUMBER);
        }
        if (goals.many >= MOST_GOALS) {
            return refused(ONE_TOO_MANY);
        }
        return answered(goals.add(beginner, due, behind));
    }

    public boolean confirm(int goal, int day) {
        if (!goals.isGoal(goal)) {
            return finish(NO_SUCH_ONE);
        }
        if (!isDay(day)) {
            return finish(BAD_NUMBER);
        }
        if (goals.confirmedOn[goal] != NONE) {
            return finish(SO_ALREADY);
        }
        goals.confirmedOn[goal] = day;
        return finish(DONE);
    }

    public int goalAt(int goal, int day) {
        if (!goals.isGoal(goal)) {
            return refused(NO_SUCH_ONE);
        }
        if (!isDay(day)) {
            return refused(BAD_NUMBER);
        }
        return answered(goals.asOf(goal, day));
    }

    // ---- lasting

    public boolean run(int months, boolean ended) {
        if (months < 1 || months > MOST_MONTHS) {
            return finish(BAD_NUMBER);
        }
        if (runs.many >= MOST_RUNS) {
            return finish(ONE_TOO_MANY);
        }
        runs.add(months, ended);
        return finish(DONE);
    }

    public boolean clear() {
        runs.many = 0;
        return finish(DONE);
    }

    public boolean lasts(int m) {
        if (m < 0 || m > MOST_MONTHS) {
            return finish(BAD_NUMBER);
        }
        if (runs.many == 0) {
            return finish(NONE_SUCH);
        }
        runs.shareBeyond(m, fraction);
        return finish(DONE);
    }

    public long upper() {
        return fraction.above;
    }

    public long lower() {
        return fraction.below;
    }

    // ---- trials

    public boolean gain(int tray, int n, int helped) {
        int found = trialFault(tray, n, helped);
        if (found == DONE) {
            trial.lay(trays[tray], n);
            trial.gainOf(helped, fraction);
        }
        return finish(found);
    }

    public boolean chance(int tray, int n, int helped) {
        int found = trialFault(tray, n, helped);
        if (found == DONE) {
            trial.lay(trays[tray], n);
            trial.chanceOf(helped, fraction);
        }
        return finish(found);
    }

    public int draw(int n, int k, int seed) {
        if (n < 1 || n > MOST_IN_TRIAL || k < 0 || k > n || seed < 0) {
            return refused(BAD_NUMBER);
        }
        return answered(Trial.drawnSet(n, k, seed));
    }

    // ---- how a call ends

    private boolean finish(int status) {
        latest = status;
        return status == DONE;
    }

    private int refused(int status) {
        latest = status;
        return NONE;
    }

    private int answered(int answer) {
        latest = DONE;
        return answer;
    }

    // ---- what a call may be refused for

    private static boolean isTray(int tray) {
        return tray >= 0 && tray < TRAYS;
    }

    private static boolean isPlaces(int places) {
        return places >= 0 && places <= MOST_PLACES;
    }

    private static boolean isDay(int day) {
        return day >= 0 && day <= LAST_DAY;
    }

    private int trayFault(int tray) {
        if (!isTray(tray)) {
            return NO_TRAY;
        }
        return trays[tray].missing ? TRAY_MISSING : DONE;
    }

    private int placeFault(int tray, int place) {
        int found = trayFault(tray);
        if (found != DONE) {
            return found;
        }
        return trays[tray].hasPlaces(place, 1) ? DONE : NO_PLACE;
    }

    private int pourFault(int tray, int i, int to, int j, int many) {
        if (!isTray(tray) || !isTray(to)) {
            return NO_TRAY;
        }
        if (trays[tray].missing || trays[to].missing) {
            return TRAY_MISSING;
        }
        if (trays[tray].sort != trays[to].sort) {
            return UNLIKE_SORTS;
        }
        if (many < 0) {
            return BELOW_ZERO;
        }
        boolean fits = trays[tray].hasPlaces(i, many) && trays[to].hasPlaces(j, many);
        return fits ? DONE : NO_PLACE;
    }

    // 9 can only be told of a PAIRING that there is, so 10 is asked ahead of it.
    private int pairedFault(int beginner) {
        if (!circle.isBeginner(beginner)) {
            return NO_SUCH_ONE;
        }
        if (!pairing.given) {
            return NONE_GIVEN;
        }
        return pairing.elderBy[beginner] == NONE ? NONE_SUCH : DONE;
    }

    private int trialFault(int tray, int n, int helped) {
        int found = trayFault(tray);
        if (found != DONE) {
            return found;
        }
        if (n < LEAST_IN_TRIAL || n > MOST_IN_TRIAL) {
            return BAD_NUMBER;
        }
        if (!trays[tray].hasPlaces(0, n)) {
            return NO_PLACE;
        }
        int all = (1 << n) - 1;
        boolean isSet = helped > 0 && helped < all;
        return isSet && trays[tray].hasOutcomes(n) ? DONE : BAD_NUMBER;
    }

    /** A row of numbers of one sort. */
    private static final class Tray {
        private final long[] numbers = new long[MOST_NUMBERS];
        private boolean missing = true;
        private int sort = 0;
        private int length = 0;

        private void make(int newSort, int many) {
            missing = false;
            sort = newSort;
            length = many;
            Arrays.fill(numbers, 0L);
        }

        // As System.arraycopy has it, no numbers at all may also start right behind the last one.
        private boolean hasPlaces(int from, int many) {
            return from >= 0 && from <= length && many <= length - from;
        }

        private void put(int place, long v) {
            numbers[place] = cut(v);
        }

        private long cut(long v) {
            switch (sort) {
                case 0:
                    return (byte) v;
                case 1:
                    return (short) v;
                case 2:
                    return (int) v;
                default:
                    return v;
            }
        }

        private boolean hasOutcomes(int n) {
            for (int i = 0; i < n; i++) {
                if (numbers[i] < 0 || numbers[i] > MOST_OUTCOME) {
                    return false;
                }
            }
            return true;
        }
    }

    /** Who there is, and what they wish. */
    private static final class Circle {
        private final int[] placesOf = new int[MOST_ELDERS];
        private final int[] likingByElder = new int[MOST_ELDERS * MOST_BEGINNERS];
        private final int[] likingByBeginner = new int[MOST_ELDERS * MOST_BEGINNERS];
        private final boolean[] barred = new boolean[MOST_ELDERS * MOST_BEGINNERS];
        private int elders = 0;
        private int beginners = 0;

        private static int spot(int elder, int beginner) {
            return elder * MOST_BEGINNERS + beginner;
        }

        private boolean isElder(int elder) {
            return elder >= 0 && elder < elders;
        }

        private boolean isBeginner(int beginner) {
            return beginner >= 0 && beginner < beginners;
        }

        private boolean areTwo(int elder, int beginner) {
            return isElder(elder) && isBeginner(beginner);
        }

        private int addElder(int places) {
            placesOf[elders] = places;
            elders++;
            return elders - 1;
        }

        private int addBeginner() {
            beginners++;
            return beginners - 1;
        }

        private void setLiking(int elder, int beginner, boolean byElder, int much) {
            int[] likings = byElder ? likingByElder : likingByBeginner;
            likings[spot(elder, beginner)] = much;
        }

        private boolean isBarred(int elder, int beginner) {
            return barred[spot(elder, beginner)];
        }

        private void setBarred(int elder, int beginner, boolean is) {
            barred[spot(elder, beginner)] = is;
        }

        private boolean canPair(int elder, int beginner) {
            int at = spot(elder, beginner);
            return likingByElder[at] != 0 && likingByBeginner[at] != 0 && !barred[at];
        }

        /** Asked only of an elder with whom the beginner can be a pair; other may be NONE. */
        private boolean beginnerPrefers(int beginner, int elder, int other) {
            if (other == NONE) {
                return true;
            }
            int liking = likingByBeginner[spot(elder, beginner)];
            int otherLiking = likingByBeginner[spot(other, beginner)];
            return liking > otherLiking || (liking == otherLiking && elder < other);
        }

        private boolean elderPrefers(int elder, int beginner, int other) {
            int liking = likingByElder[spot(elder, beginner)];
            int otherLiking = likingByElder[spot(elder, other)];
            return liking > otherLiking || (liking == otherLiking && beginner < other);
        }
    }

    /** Who has whom. */
    private static final class Pairing {
        private final int[] elderBy = new int[MOST_BEGINNERS];
        private final int[] lastAsked = new int[MOST_BEGINNERS];
        private boolean given = false;

        private Pairing() {
            Arrays.fill(elderBy, NONE);
        }

        private int countOf(int elder) {
            int count = 0;
            for (int b = 0; b < MOST_BEGINNERS; b++) {
                if (elderBy[b] == elder) {
                    count++;
                }
            }
            return count;
        }

        private boolean hasPlaceLeft(Circle circle, int elder) {
            return countOf(elder) < circle.placesOf[elder];
        }

        /** The one of the elder's beginners whom they prefer least, or NONE. */
        private int leastOf(Circle circle, int elder) {
            int least = NONE;
            for (int b = 0; b < circle.beginners; b++) {
                if (elderBy[b] == elder && (least == NONE || circle.elderPrefers(elder, least, b))) {
                    least = b;
                }
            }
            return least;
        }

        /** Makes BEST anew, and tells how many pairs it has. */
        private int makeBest(Circle circle) {
            given = true;
            Arrays.fill(elderBy, NONE);
            Arrays.fill(lastAsked, NONE);
            for (int b = 0; b < circle.beginners; b++) {
                seat(circle, b);
            }
            return countPairs();
        }

        private int countPairs() {
            int count = 0;
            for (int b = 0; b < MOST_BEGINNERS; b++) {
                if (elderBy[b] != NONE) {
                    count++;
                }
            }
            return count;
        }

        // Beginners ask, elders hold whom they prefer so far: this alone leads to the pairing that
        // is best for beginners. No beginner asks an elder twice, which bounds the steps.
        private void seat(Circle circle, int beginner) {
            int seeker = beginner;
            for (int step = 0; step < MOST_ELDERS * MOST_BEGINNERS && seeker != NONE; step++) {
                int elder = nextChoice(circle, seeker);
                if (elder == NONE) {
                    return;
                }
                lastAsked[seeker] = elder;
                seeker = askFor(circle, elder, seeker);
            }
        }

        /** The elder whom the beginner prefers among those not asked yet, or NONE. */
        private int nextChoice(Circle circle, int beginner) {
            int last = lastAsked[beginner];
            int choice = NONE;
            for (int e = 0; e < circle.elders; e++) {
                boolean isLeft = circle.canPair(e, beginner)
                        && (last == NONE || circle.beginnerPrefers(beginner, last, e));
                if (isLeft && circle.beginnerPrefers(beginner, e, choice)) {
                    choice = e;
                }
            }
            return choice;
        }

        /** Tells who is without an elder then: the asker, another one, or NONE. */
        private int askFor(Circle circle, int elder, int asker) {
            int leaver = NONE;
            if (!hasPlaceLeft(circle, elder)) {
                leaver = leastOf(circle, elder);
                if (leaver == NONE || !circle.elderPrefers(elder, asker, leaver)) {
                    return asker;
                }
                elderBy[leaver] = NONE;
            }
            elderBy[asker] = elder;
            return leaver;
        }

        private boolean isBlockedBy(Circle circle, int elder, int beginner) {
            int has = elderBy[beginner];
            if (has == elder || !circle.canPair(elder, beginner)
                    || !circle.beginnerPrefers(beginner, elder, has)) {
                return false;
            }
            if (hasPlaceLeft(circle, elder)) {
                return true;
            }
            int least = leastOf(circle, elder);
            return least != NONE && circle.elderPrefers(elder, beginner, least);
        }

        private int countBlocking(Circle circle) {
            int count = 0;
            for (int e = 0; e < circle.elders; e++) {
                for (int b = 0; b < circle.beginners; b++) {
                    if (isBlockedBy(circle, e, b)) {
                        count++;
                    }
                }
            }
            return count;
        }
    }

    /** The search for the shortest row of a CHANGE. */
    private static final class Row {
        private final int[] queue = new int[MOST_BEGINNERS];
        private final int[] takerFrom = new int[MOST_BEGINNERS];
        private int queued = 0;
        private int first = NONE;
        private int freeElder = NONE;

        /**
         * Finds who moves last in the row that is due, or NONE. Whoever is reached by fewer moves,
         * and among these by the lesser steps, waits ahead in the queue: so the first one who can
         * take a free place ends the row that is due.
         */
        private int findLast(Circle circle, Pairing pairing, int beginner) {
            Arrays.fill(takerFrom, NONE);
            first = beginner;
            queue[0] = beginner;
            queued = 1;
            for (int at = 0; at < MOST_BEGINNERS && at < queued; at++) {
                int mover = queue[at];
                freeElder = freeElderFor(circle, pairing, mover);
                if (freeElder != NONE) {
                    return mover;
                }
                queueLeavers(circle, pairing, mover);
            }
            return NONE;
        }

        private static boolean mayMove(Circle circle, Pairing pairing, int mover, int elder) {
            return elder != pairing.elderBy[mover] && circle.canPair(elder, mover);
        }

        private int freeElderFor(Circle circle, Pairing pairing, int mover) {
            for (int e = 0; e < circle.elders; e++) {
                if (mayMove(circle, pairing, mover, e) && isFree(circle, pairing, e)) {
                    return e;
                }
            }
            return NONE;
        }

        private boolean isFree(Circle circle, Pairing pairing, int elder) {
            int leaves = pairing.elderBy[first] == elder ? 1 : 0;
            return pairing.countOf(elder) - leaves < circle.placesOf[elder];
        }

        private void queueLeavers(Circle circle, Pairing pairing, int mover) {
            for (int e = 0; e < circle.elders; e++) {
                if (mayMove(circle, pairing, mover, e)) {
                    queueLeaversOf(circle, pairing, mover, e);
                }
            }
        }

        private void queueLeaversOf(Circle circle, Pairing pairing, int mover, int elder) {
            for (int b = 0; b < circle.beginners; b++) {
                boolean isNew = b != first && takerFrom[b] == NONE;
                if (isNew && pairing.elderBy[b] == elder && queued < MOST_BEGINNERS) {
                    takerFrom[b] = mover;
                    queue[queued] = b;
                    queued++;
                }
            }
        }

        /** Moves all of the row that was found, and tells how many they are. */
        private int moveAll(Pairing pairing, int last) {
            int mover = last;
            int to = freeElder;
            int moved = 0;
            while (moved < MOST_BEGINNERS && mover != NONE) {
                int left = pairing.elderBy[mover];
                pairing.elderBy[mover] = to;
                to = left;
                mover = takerFrom[mover];
                moved++;
            }
            return moved;
        }
    }

    /** Meetings, and what was told of them. */
    private static final class Meetings {
        private final int[] beginnerOf = new int[MOST_MEETINGS];
        private final int[] dueOn = new int[MOST_MEETINGS];
        private final int[] toldMeeting = new int[MOST_TELLINGS];
        private final int[] toldDay = new int[MOST_TELLINGS];
        private final boolean[] toldKept = new boolean[MOST_TELLINGS];
        private int many = 0;
        private int tellings = 0;

        private boolean isMeeting(int meeting) {
            return meeting >= 0 && meeting < many;
        }

        private int add(int beginner, int due) {
            beginnerOf[many] = beginner;
            dueOn[many] = due;
            many++;
            return many - 1;
        }

        private void addTelling(int meeting, boolean kept, int day) {
            toldMeeting[tellings] = meeting;
            toldKept[tellings] = kept;
            toldDay[tellings] = day;
            tellings++;
        }

        private int count(int beginner, int day, int what) {
            int count = 0;
            for (int m = 0; m < many; m++) {
                if (beginnerOf[m] == beginner && dueOn[m] <= day && knownOn(m, day) == what) {
                    count++;
                }
            }
            return count;
        }

        private int knownOn(int meeting, int day) {
            int counts = NONE;
            for (int t = 0; t < tellings; t++) {
                boolean isKnown = toldMeeting[t] == meeting && toldDay[t] <= day;
                if (isKnown && (counts == NONE || toldDay[t] >= toldDay[counts])) {
                    counts = t;
                }
            }
            if (counts == NONE) {
                return UNKNOWN;
            }
            return toldKept[counts] ? KEPT : SLIPPED;
        }
    }

    /** Goals, each perhaps behind another one with a lesser number. */
    private static final class Goals {
        private final int[] beginnerOf = new int[MOST_GOALS];
        private final int[] dueOn = new int[MOST_GOALS];
        private final int[] behindGoal = new int[MOST_GOALS];
        private final int[] confirmedOn = new int[MOST_GOALS];
        private int many = 0;

        private boolean isGoal(int goal) {
            return goal >= 0 && goal < many;
        }

        private boolean isGoalOf(int goal, int beginner) {
            return isGoal(goal) && beginnerOf[goal] == beginner;
        }

        private int add(int beginner, int due, int behind) {
            beginnerOf[many] = beginner;
            dueOn[many] = due;
            behindGoal[many] = behind;
            confirmedOn[many] = NONE;
            many++;
            return many - 1;
        }

        private int asOf(int goal, int day) {
            if (isReached(goal, day)) {
                return REACHED;
            }
            return day > dueOn[goal] ? MISSED : OPEN;
        }

        private boolean isReached(int goal, int day) {
            int asked = goal;
            int by = day;
            for (int step = 0; step < MOST_GOALS && asked != NONE; step++) {
                int confirmed = confirmedOn[asked];
                if (confirmed == NONE || confirmed > by || confirmed > dueOn[asked]) {
                    return false;
                }
                by = confirmed;
                asked = behindGoal[asked];
            }
            return true;
        }
    }

    /** How long pairs lasted so far. */
    private static final class Runs {
        private final int[] monthsOf = new int[MOST_RUNS];
        private final boolean[] hasEnded = new boolean[MOST_RUNS];
        private int many = 0;

        private void add(int months, boolean ended) {
            monthsOf[many] = months;
            hasEnded[many] = ended;
            many++;
        }

        // Those at risk are fewer at each factor, so the product stays within 16 factorial.
        private void shareBeyond(int m, Fraction fraction) {
            long above = 1;
            long below = 1;
            for (int months = 1; months <= m; months++) {
                int endedThen = countEnded(months);
                if (endedThen > 0) {
                    int atRisk = countAtRisk(months);
                    above *= atRisk - endedThen;
                    below *= atRisk;
                }
            }
            fraction.become(above, below);
        }

        private int countEnded(int months) {
            int count = 0;
            for (int r = 0; r < many; r++) {
                if (hasEnded[r] && monthsOf[r] == months) {
                    count++;
                }
            }
            return count;
        }

        private int countAtRisk(int months) {
            int count = 0;
            for (int r = 0; r < many; r++) {
                if (monthsOf[r] >= months) {
                    count++;
                }
            }
            return count;
        }
    }

    /** Outcomes laid out so that the sum over a set takes two looks: there are many sets. */
    private static final class Trial {
        private static final int HALF = 8;
        private static final int HALF_SETS = 256;
        private static final long LOT_TIMES = 1_103_515_245L;
        private static final long LOT_MORE = 12_345L;
        private static final long LOWER_31_BITS = 0x7fff_ffffL;
        private static final int LOT_SHIFT = 16;

        private final long[] sumsOfFirst = new long[HALF_SETS];
        private final long[] sumsOfRest = new long[HALF_SETS];
        private int many = 0;

        private void lay(Tray tray, int n) {
            many = n;
            laySums(tray, 0, sumsOfFirst);
            laySums(tray, HALF, sumsOfRest);
        }

        private void laySums(Tray tray, int from, long[] sums) {
            for (int set = 1; set < HALF_SETS; set++) {
                int place = from + Integer.numberOfTrailingZeros(set);
                long outcome = place < many ? tray.numbers[place] : 0;
                sums[set] = sums[set & (set - 1)] + outcome;
            }
        }

        private long sumOf(int set) {
            return sumsOfFirst[set & (HALF_SETS - 1)] + sumsOfRest[(set >> HALF) & (HALF_SETS - 1)];
        }

        private void gainOf(int helped, Fraction fraction) {
            long k = Integer.bitCount(helped);
            long others = many - k;
            long sum = sumOf(helped);
            long sumOfOthers = sumOf((1 << many) - 1) - sum;
            fraction.become(sum * others - sumOfOthers * k, k * others);
        }

        // Among sets of one size a gain is not less just where the sum of the helped is not less.
        private void chanceOf(int helped, Fraction fraction) {
            int k = Integer.bitCount(helped);
            int sets = countSets(many, k);
            long sum = sumOf(helped);
            int notLess = 0;
            int set = (1 << k) - 1;
            for (int s = 0; s < sets; s++) {
                if (sumOf(set) >= sum) {
                    notLess++;
                }
                set = nextOfSameSize(set);
            }
            fraction.become(notLess, sets);
        }

        private static int countSets(int n, int k) {
            int sets = 1;
            for (int i = 1; i <= k; i++) {
                sets = sets * (n - k + i) / i;
            }
            return sets;
        }

        /** The next greater number with as many bits. */
        private static int nextOfSameSize(int set) {
            int lowest = set & -set;
            int carried = set + lowest;
            int dropped = (set ^ carried) >>> 2;
            return carried | (dropped >>> Integer.numberOfTrailingZeros(lowest));
        }

        private static int drawnSet(int n, int k, int seed) {
            long state = seed;
            int toHelp = k;
            int set = 0;
            for (int i = 0; i < n; i++) {
                state = (LOT_TIMES * state + LOT_MORE) & LOWER_31_BITS;
                if ((state >> LOT_SHIFT) % (n - i) < toHelp) {
                    set |= 1 << i;
                    toHelp--;
                }
            }
            return set;
        }
    }

    /** The fraction told latest, in lowest terms. */
    private static final class Fraction {
        // The greatest longs take fewer than a hundred steps.
        private static final int MOST_STEPS = 100;

        private long above = 0;
        private long below = 1;

        /** The lower number is above 0. */
        private void become(long newAbove, long newBelow) {
            long divisor = commonDivisor(Math.abs(newAbove), newBelow);
            if (divisor > 0) {
                above = newAbove / divisor;
                below = newBelow / divisor;
            }
        }

        private static long commonDivisor(long a, long b) {
            long greater = a;
            long lesser = b;
            for (int step = 0; step < MOST_STEPS && lesser != 0; step++) {
                long rest = greater % lesser;
                greater = lesser;
                lesser = rest;
            }
            return greater;
        }
    }
}
