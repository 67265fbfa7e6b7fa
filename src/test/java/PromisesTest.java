/** Each promise of the document: ordinary inputs, the edges that it names, and wrong inputs. */
public final class PromisesTest {
    private static final int LOW = Integer.MIN_VALUE;
    private static final int HIGH = Integer.MAX_VALUE;

    private static int wrong = 0;
    private static int promise = 0;
    private static MentorPairs x = null;

    private static void begin(int number) {
        promise = number;
        x = new MentorPairs();
    }

    private static void due(String call, long got, long want) {
        if (got != want) {
            wrong++;
            System.out.println("promise " + promise + ": " + call + " answered " + got + ", due is " + want);
        }
    }

    /** A call that gives NONE, with its status. */
    private static void none(String call, long got, int status) {
        due(call, got, MentorPairs.NONE);
        due(call + ", status()", x.status(), status);
    }

    private static void yes(String call, boolean got) {
        due(call, got ? 1 : 0, 1);
        due(call + ", status()", x.status(), 0);
    }

    private static void no(String call, boolean got, int status) {
        due(call, got ? 1 : 0, 0);
        due(call + ", status()", x.status(), status);
    }

    private static void number(String call, long got, long want) {
        due(call, got, want);
        due(call + ", status()", x.status(), 0);
    }

    private static void fraction(String call, boolean got, long upper, long lower) {
        yes(call, got);
        due(call + ", upper()", x.upper(), upper);
        due(call + ", lower()", x.lower(), lower);
    }

    public static void main(String[] args) {
        newObject();
        statusOfLatest();
        trays();
        writeAndRead();
        pour();
        elderAndBeginner();
        placesLikeAndBar();
        pairWithTies();
        pairIsBest();
        pairByPlaces();
        elderOfAndHas();
        blocksAfterwards();
        blockOneByOne();
        changeRows();
        changeRefused();
        changeBesideOthers();
        meetings();
        tellLimits();
        goals();
        goalChains();
        runs();
        lasts();
        gain();
        chance();
        trialFaults();
        draw();
        System.out.println(wrong == 0 ? "all promises hold" : wrong + " answers are not as due");
        if (wrong != 0) {
            System.exit(1);
        }
    }

    // ---- 1, 2

    private static void newObject() {
        begin(1);
        due("status()", x.status(), 0);
        due("upper()", x.upper(), 0);
        due("lower()", x.lower(), 1);
        for (int t = 0; t < 4; t++) {
            none("read of a new tray", x.read(t, 0), 3);
        }
        none("elderOf(0)", x.elderOf(0), 2);
        none("blocks()", x.blocks(), 10);
        none("met(0, 0, 0)", x.met(0, 0, 0), 2);
        none("goalAt(0, 0)", x.goalAt(0, 0), 2);
        no("lasts(0)", x.lasts(0), 9);
    }

    private static void statusOfLatest() {
        begin(2);
        none("elder(-1)", x.elder(-1), 5);
        x.upper();
        x.lower();
        due("status() again", x.status(), 5);
        due("status() and again", x.status(), 5);
        number("beginner()", x.beginner(), 0);
        MentorPairs other = new MentorPairs();
        other.elder(9);
        due("status() beside another object", x.status(), 0);
    }

    // ---- 3 to 6

    private static void trays() {
        begin(3);
        for (int bad : new int[] {-1, 4, LOW, HIGH}) {
            no("tray of no such tray", x.tray(bad, 0, 1), 1);
            no("tray of no such sort", x.tray(0, bad, 1), 1);
        }
        no("tray(4, 0, 41)", x.tray(4, 0, 41), 1);
        no("tray(0, 4, -1)", x.tray(0, 4, -1), 1);
        no("tray(0, 0, 41)", x.tray(0, 0, 41), 5);
        no("tray(0, 0, HIGH)", x.tray(0, 0, HIGH), 5);
        no("tray(0, 0, -1)", x.tray(0, 0, -1), 6);
        no("tray(0, 0, LOW)", x.tray(0, 0, LOW), 6);
        none("still missing", x.read(0, 0), 3);
        yes("tray(0, 0, 0)", x.tray(0, 0, 0));
        none("no place in none", x.read(0, 0), 4);
        yes("tray(3, 3, 40)", x.tray(3, 3, 40));
        for (int i = 0; i < 40; i++) {
            number("a new number", x.read(3, i), 0);
            yes("write", x.write(3, i, i + 1));
        }
        no("tray(3, 3, 41)", x.tray(3, 3, 41), 5);
        number("kept as it was", x.read(3, 39), 40);
        yes("shorter", x.tray(3, 1, 2));
        number("0 again", x.read(3, 0), 0);
        none("gone", x.read(3, 2), 4);
        yes("longer", x.tray(3, 3, 40));
        for (int i = 0; i < 40; i++) {
            number("0 again", x.read(3, i), 0);
        }
    }

    private static void writeAndRead() {
        begin(4);
        long v = 0x1234_5678_9abc_def0L;
        long[] cut = {(byte) 0xf0, (short) 0xdef0, (int) 0x9abcdef0L, v};
        for (int sort = 0; sort < 4; sort++) {
            yes("tray", x.tray(sort, sort, 2));
            yes("write", x.write(sort, 1, v));
            number("read", x.read(sort, 1), cut[sort]);
            number("read beside", x.read(sort, 0), 0);
            yes("write", x.write(sort, 0, Long.MIN_VALUE));
            number("read", x.read(sort, 0), sort == 3 ? Long.MIN_VALUE : 0);
            yes("write", x.write(sort, 0, Long.MAX_VALUE));
            number("read", x.read(sort, 0), sort == 3 ? Long.MAX_VALUE : -1);
        }
        yes("write(0, 0, 127)", x.write(0, 0, 127));
        number("read", x.read(0, 0), 127);
        yes("write(0, 0, 128)", x.write(0, 0, 128));
        number("read", x.read(0, 0), -128);
        yes("write(1, 0, 32768)", x.write(1, 0, 32768));
        number("read", x.read(1, 0), -32768);
        yes("write(2, 0, 2147483648)", x.write(2, 0, 2147483648L));
        number("read", x.read(2, 0), LOW);
        promise = 5;
        yes("write(0, 0, -1)", x.write(0, 0, -1));
        number("a -1 that is no NONE", x.read(0, 0), -1);
        x = new MentorPairs();
        yes("tray(1, 0, 3)", x.tray(1, 0, 3));
        for (int bad : new int[] {-1, 4, LOW, HIGH}) {
            no("write to no such tray", x.write(bad, 9, 1), 1);
            none("read of no such tray", x.read(bad, 9), 1);
        }
        no("write to a missing one", x.write(0, 9, 1), 3);
        none("read of a missing one", x.read(0, 9), 3);
        for (int bad : new int[] {-1, 3, LOW, HIGH}) {
            no("write to no such place", x.write(1, bad, 1), 4);
            none("read of no such place", x.read(1, bad), 4);
        }
    }

    private static void fill(int tray, int sort, int... numbers) {
        x.tray(tray, sort, numbers.length);
        for (int i = 0; i < numbers.length; i++) {
            x.write(tray, i, numbers[i]);
        }
    }

    private static void holds(String what, int tray, int... numbers) {
        for (int i = 0; i < numbers.length; i++) {
            number(what + ", place " + i, x.read(tray, i), numbers[i]);
        }
    }

    private static void pour() {
        begin(6);
        fill(0, 0, 1, 2, 3, 4, 5);
        fill(1, 0, 9, 9, 9);
        fill(2, 1, 7);
        yes("to another", x.pour(0, 1, 1, 0, 2));
        holds("to another", 1, 2, 3, 9);
        holds("from where", 0, 1, 2, 3, 4, 5);
        yes("forwards over itself", x.pour(0, 0, 0, 1, 4));
        holds("forwards over itself", 0, 1, 1, 2, 3, 4);
        yes("backwards over itself", x.pour(0, 1, 0, 0, 4));
        holds("backwards over itself", 0, 1, 2, 3, 4, 4);
        yes("none at all", x.pour(0, 5, 1, 3, 0));
        yes("all", x.pour(0, 0, 0, 0, 5));
        no("from no such tray", x.pour(4, 0, 3, 0, -1), 1);
        no("to no such tray", x.pour(3, 0, -1, 0, -1), 1);
        no("from a missing one", x.pour(3, 0, 0, 0, -1), 3);
        no("to a missing one", x.pour(0, 0, 3, 0, -1), 3);
        no("unlike sorts", x.pour(0, -1, 2, 0, -1), 11);
        no("below 0", x.pour(0, -1, 1, 0, -1), 6);
        no("below 0", x.pour(0, 0, 1, 0, LOW), 6);
        no("from -1", x.pour(0, -1, 1, 0, 1), 4);
        no("to -1", x.pour(0, 0, 1, -1, 1), 4);
        no("from too far", x.pour(0, 4, 1, 0, 2), 4);
        no("to too far", x.pour(0, 0, 1, 2, 2), 4);
        no("from behind the end", x.pour(0, 6, 1, 0, 0), 4);
        no("too many", x.pour(0, 1, 1, 1, HIGH), 4);
        no("from HIGH", x.pour(0, HIGH, 1, 0, HIGH), 4);
        no("to HIGH", x.pour(0, 0, 1, HIGH, 1), 4);
        no("from LOW", x.pour(0, LOW, 1, 0, 1), 4);
        holds("nothing changed", 0, 1, 2, 3, 4, 4);
        holds("nothing changed", 1, 2, 3, 9);
    }

    // ---- 7 to 11

    private static void elderAndBeginner() {
        begin(7);
        for (int bad : new int[] {-1, 5, LOW, HIGH}) {
            none("elder with such places", x.elder(bad), 5);
        }
        for (int e = 0; e < 12; e++) {
            number("elder", x.elder(e % 5), e);
        }
        none("one elder too many", x.elder(1), 7);
        none("bad places ahead of one too many", x.elder(5), 5);
        promise = 8;
        for (int b = 0; b < 16; b++) {
            number("beginner()", x.beginner(), b);
        }
        none("one beginner too many", x.beginner(), 7);
        number("the last two", like(11, 15, 1, 1), 2);
        yes("places(11, 1)", x.places(11, 1));
        number("pair()", x.pair(), 1);
        number("elderOf(15)", x.elderOf(15), 11);
    }

    /** Both likings at once; the answer is how many were taken. */
    private static int like(int elder, int beginner, int byElder, int byBeginner) {
        int taken = x.like(elder, beginner, true, byElder) ? 1 : 0;
        return taken + (x.like(elder, beginner, false, byBeginner) ? 1 : 0);
    }

    private static void people(int beginners, int... places) {
        for (int p : places) {
            x.elder(p);
        }
        for (int b = 0; b < beginners; b++) {
            x.beginner();
        }
    }

    private static void placesLikeAndBar() {
        begin(9);
        people(1, 0, 4);
        for (int bad : new int[] {-1, 2, LOW, HIGH}) {
            no("places of no such elder", x.places(bad, 5), 2);
            no("like of no such elder", x.like(bad, 0, true, 101), 2);
            no("bar of no such elder", x.bar(bad, 0, false), 2);
        }
        no("places(0, -1)", x.places(0, -1), 5);
        no("places(0, 5)", x.places(0, 5), 5);
        like(0, 0, 100, 100);
        number("without a place", x.pair(), 0);
        yes("places(0, 4)", x.places(0, 4));
        number("with places", x.pair(), 1);
        yes("places(0, 0)", x.places(0, 0));
        number("without a place again", x.pair(), 0);
        promise = 10;
        yes("places(0, 1)", x.places(0, 1));
        for (int bad : new int[] {-1, 1, LOW, HIGH}) {
            no("like of no such beginner", x.like(0, bad, true, 101), 2);
            no("bar of no such beginner", x.bar(0, bad, false), 2);
        }
        for (int bad : new int[] {-1, 101, LOW, HIGH}) {
            no("such a liking", x.like(0, 0, true, bad), 5);
            no("such a liking", x.like(0, 0, false, bad), 5);
        }
        number("still", x.pair(), 1);
        yes("like(0, 0, true, 0)", x.like(0, 0, true, 0));
        number("the elder would rather have none", x.pair(), 0);
        yes("like(0, 0, true, 1)", x.like(0, 0, true, 1));
        yes("like(0, 0, false, 0)", x.like(0, 0, false, 0));
        number("the beginner would rather have none", x.pair(), 0);
        yes("like(0, 0, false, 1)", x.like(0, 0, false, 1));
        number("both like", x.pair(), 1);
        promise = 11;
        no("bar(0, 0, false)", x.bar(0, 0, false), 8);
        yes("bar(0, 0, true)", x.bar(0, 0, true));
        no("bar(0, 0, true)", x.bar(0, 0, true), 8);
        number("barred", x.pair(), 0);
        yes("bar(0, 0, false)", x.bar(0, 0, false));
        number("barred no more", x.pair(), 1);
    }

    // ---- 12

    private static void pairWithTies() {
        begin(12);
        number("nobody", x.pair(), 0);
        people(2, 1, 1);
        number("no wishes", x.pair(), 0);
        for (int e = 0; e < 2; e++) {
            for (int b = 0; b < 2; b++) {
                like(e, b, 7, 7);
            }
        }
        number("pair()", x.pair(), 2);
        number("of like elders the lesser", x.elderOf(0), 0);
        number("of like beginners the lesser", x.elderOf(1), 1);
        like(0, 1, 8, 8);
        number("pair()", x.pair(), 2);
        number("the more liked one", x.elderOf(1), 0);
        number("the other one", x.elderOf(0), 1);
    }

    /** Two stable pairings: that which the beginners prefer is due, not that of the elders. */
    private static void pairIsBest() {
        begin(12);
        people(3, 1, 1, 1);
        int[][] byBeginner = {{30, 20, 10}, {10, 30, 20}, {20, 10, 30}};
        int[][] byElder = {{10, 30, 20}, {20, 10, 30}, {30, 20, 10}};
        for (int e = 0; e < 3; e++) {
            for (int b = 0; b < 3; b++) {
                like(e, b, byElder[e][b], byBeginner[b][e]);
            }
        }
        number("pair()", x.pair(), 3);
        for (int b = 0; b < 3; b++) {
            number("the first choice", x.elderOf(b), b);
        }
        number("blocks()", x.blocks(), 0);
    }

    private static void pairByPlaces() {
        begin(12);
        people(5, 2, 4, 0);
        for (int b = 0; b < 5; b++) {
            like(0, b, 10 + b, 50);
            like(1, b, 10, 40);
            like(2, b, 100, 100);
        }
        x.bar(1, 1, true);
        number("pair()", x.pair(), 4);
        number("elderOf(4)", x.elderOf(4), 0);
        number("elderOf(3)", x.elderOf(3), 0);
        number("elderOf(2)", x.elderOf(2), 1);
        none("elderOf(1)", x.elderOf(1), 9);
        number("elderOf(0)", x.elderOf(0), 1);
        number("has(0)", x.has(0), 2);
        number("has(1)", x.has(1), 2);
        number("has(2)", x.has(2), 0);
        number("blocks()", x.blocks(), 0);
    }

    // ---- 13, 14

    private static void elderOfAndHas() {
        begin(13);
        people(2, 2);
        like(0, 0, 5, 5);
        none("elderOf(0)", x.elderOf(0), 10);
        none("has(0)", x.has(0), 10);
        none("change(0)", x.change(0), 10);
        none("block(0, 0)", x.block(0, 0), 10);
        for (int bad : new int[] {-1, 2, LOW, HIGH}) {
            none("elderOf of none such", x.elderOf(bad), 2);
            none("has of none such", x.has(bad == 2 ? 1 : bad), 2);
        }
        number("pair()", x.pair(), 1);
        number("elderOf(0)", x.elderOf(0), 0);
        none("elderOf(1)", x.elderOf(1), 9);
        number("beginner()", x.beginner(), 2);
        like(0, 2, 5, 5);
        none("one who came later", x.elderOf(2), 9);
        promise = 14;
        number("has(0)", x.has(0), 1);
        number("elder(4)", x.elder(4), 1);
        number("has of one who came later", x.has(1), 0);
        x.like(0, 0, true, 0);
        x.bar(0, 0, true);
        x.places(0, 0);
        number("given stays", x.elderOf(0), 0);
        number("given stays", x.has(0), 1);
        number("made anew", x.pair(), 0);
        none("gone", x.elderOf(0), 9);
        number("gone", x.has(0), 0);
    }

    // ---- 15, 16

    private static void blocksAfterwards() {
        begin(15);
        people(3, 1, 1);
        none("blocks()", x.blocks(), 10);
        like(0, 0, 50, 50);
        like(1, 1, 50, 50);
        number("pair()", x.pair(), 2);
        number("stable", x.blocks(), 0);
        like(0, 1, 50, 50);
        number("the elder prefers the lesser one", x.blocks(), 0);
        x.like(0, 1, true, 51);
        number("both prefer", x.blocks(), 1);
        x.like(0, 1, false, 49);
        number("the beginner does not", x.blocks(), 0);
        like(0, 2, 50, 1);
        like(1, 2, 50, 1);
        number("no place, not preferred", x.blocks(), 0);
        x.places(0, 2);
        number("a place is left", x.blocks(), 1);
        x.places(1, 4);
        number("a place is left at both", x.blocks(), 2);
        x.bar(0, 2, true);
        number("barred", x.blocks(), 1);
        x.bar(1, 1, true);
        number("a pair that can't be any more counts as a pair", x.blocks(), 1);
        x.like(1, 1, false, 0);
        number("one not liked any more", x.blocks(), 2);
        number("a later beginner", x.beginner(), 3);
        like(1, 3, 1, 1);
        number("blocks too", x.blocks(), 3);
        number("a later elder", x.elder(1), 2);
        like(2, 0, 1, 51);
        number("blocks too", x.blocks(), 4);
        x.places(2, 0);
        number("but not without a place", x.blocks(), 3);
    }

    private static void blockOneByOne() {
        begin(16);
        people(3, 1, 2);
        like(0, 0, 10, 10);
        like(1, 1, 10, 10);
        like(1, 2, 30, 10);
        none("block(0, 0)", x.block(0, 0), 10);
        none("block(2, 0)", x.block(2, 0), 2);
        none("block(0, 3)", x.block(0, 3), 2);
        none("block(-1, 0)", x.block(-1, 0), 2);
        none("block(0, -1)", x.block(0, -1), 2);
        none("block(HIGH, LOW)", x.block(HIGH, LOW), 2);
        number("pair()", x.pair(), 3);
        number("a pair", x.block(0, 0), 0);
        like(1, 0, 20, 20);
        number("preferred to one of two", x.block(1, 0), 1);
        x.like(1, 0, true, 5);
        number("preferred to none of them", x.block(1, 0), 0);
        x.like(1, 0, true, 10);
        number("the lesser number of like ones", x.block(1, 0), 1);
        x.like(1, 0, false, 10);
        number("the beginner prefers the lesser elder", x.block(1, 0), 0);
        x.like(0, 0, false, 0);
        number("what they have is liked less", x.block(1, 0), 1);
        x.places(1, 0);
        number("more than places, yet one preferred to", x.block(1, 0), 1);
        x.bar(1, 0, true);
        number("barred", x.block(1, 0), 0);
        number("blocks() agrees", x.blocks(), 0);
    }

    // ---- 17

    private static void changeRows() {
        begin(17);
        people(3, 1, 1, 1);
        like(0, 0, 9, 9);
        like(1, 1, 9, 9);
        number("pair()", x.pair(), 2);
        like(2, 0, 1, 1);
        like(1, 0, 1, 1);
        like(0, 1, 1, 1);
        number("straight to a free place", x.change(0), 1);
        number("elderOf(0)", x.elderOf(0), 2);
        number("elderOf(1)", x.elderOf(1), 1);
        none("those in none stay in none", x.elderOf(2), 9);
        no("barred from then on", x.bar(0, 0, true), 8);
        no("others are not", x.bar(1, 1, false), 8);
        number("the lesser elder", x.change(1), 1);
        number("elderOf(1)", x.elderOf(1), 0);
        x = new MentorPairs();
        people(2, 1, 1);
        like(0, 0, 9, 9);
        like(1, 1, 9, 9);
        number("pair()", x.pair(), 2);
        like(1, 0, 1, 1);
        like(0, 1, 1, 1);
        number("into the place that the first one leaves", x.change(0), 2);
        number("elderOf(0)", x.elderOf(0), 1);
        number("elderOf(1)", x.elderOf(1), 0);
        promise = 17;
        x = new MentorPairs();
        people(4, 1, 1, 1, 1, 1);
        for (int b = 0; b < 4; b++) {
            like(b, b, 9, 9);
        }
        number("pair()", x.pair(), 4);
        for (int b = 0; b < 4; b++) {
            like(b + 1, b, 1, 1);
        }
        number("a row of four", x.change(0), 4);
        for (int b = 0; b < 4; b++) {
            number("one further", x.elderOf(b), b + 1);
        }
    }

    private static void changeRefused() {
        begin(17);
        people(2, 1, 1);
        like(0, 0, 9, 9);
        none("none given", x.change(0), 10);
        number("pair()", x.pair(), 1);
        for (int bad : new int[] {-1, 2, LOW, HIGH}) {
            none("no such beginner", x.change(bad), 2);
        }
        none("in none", x.change(1), 9);
        number("a later one", x.beginner(), 2);
        none("in none", x.change(2), 9);
        none("nowhere to go", x.change(0), 12);
        no("nobody is barred then", x.bar(0, 0, false), 8);
        number("nobody is moved then", x.elderOf(0), 0);
        like(1, 0, 1, 1);
        x.places(1, 0);
        none("no place there", x.change(0), 12);
        x.places(1, 1);
        x.bar(1, 0, true);
        none("barred there", x.change(0), 12);
        x.bar(1, 0, false);
        x.bar(0, 0, true);
        number("barred already", x.change(0), 1);
        no("still barred", x.bar(0, 0, true), 8);
        number("elderOf(0)", x.elderOf(0), 1);
    }

    /** Of several shortest rows the first by elder, then by who leaves. */
    private static void changeBesideOthers() {
        begin(17);
        people(5, 1, 2, 2, 3);
        like(0, 0, 9, 9);
        like(1, 1, 9, 9);
        like(1, 2, 9, 9);
        like(2, 3, 9, 9);
        like(2, 4, 9, 9);
        number("pair()", x.pair(), 5);
        like(1, 0, 1, 1);
        like(2, 0, 99, 99);
        like(3, 2, 1, 1);
        like(3, 1, 1, 1);
        like(3, 3, 1, 1);
        number("a row of two", x.change(0), 2);
        number("to the lesser elder", x.elderOf(0), 1);
        number("of whom the lesser leaves", x.elderOf(1), 3);
        number("the other stays", x.elderOf(2), 1);
        number("the other stays", x.elderOf(3), 2);
        x = new MentorPairs();
        people(3, 1, 2, 1);
        like(0, 0, 9, 9);
        like(1, 1, 9, 9);
        like(1, 2, 9, 9);
        number("pair()", x.pair(), 3);
        like(1, 0, 1, 1);
        like(2, 2, 1, 1);
        x.places(1, 1);
        number("only the greater one can leave", x.change(0), 2);
        number("elderOf(0)", x.elderOf(0), 1);
        number("elderOf(1)", x.elderOf(1), 1);
        number("elderOf(2)", x.elderOf(2), 2);
        number("has(0)", x.has(0), 0);
    }

    // ---- 18 to 20

    private static void meetings() {
        begin(18);
        people(2);
        for (int bad : new int[] {-1, 2, LOW, HIGH}) {
            none("meeting of no such beginner", x.meeting(bad, -1), 2);
            none("met of no such beginner", x.met(bad, -1, 3), 2);
        }
        for (int bad : new int[] {-1, 10000, LOW, HIGH}) {
            none("meeting on no such day", x.meeting(0, bad), 5);
            none("met on no such day", x.met(0, bad, 0), 5);
        }
        number("meeting(0, 0)", x.meeting(0, 0), 0);
        number("meeting(1, 9999)", x.meeting(1, 9999), 1);
        number("met(0, 0, 2)", x.met(0, 0, 2), 1);
        number("met(1, 9998, 2)", x.met(1, 9998, 2), 0);
        number("met(1, 9999, 2)", x.met(1, 9999, 2), 1);
        for (int i = 2; i < 100; i++) {
            number("meeting", x.meeting(i % 2, 50), i);
        }
        none("one meeting too many", x.meeting(0, 50), 7);
        none("a bad day ahead of it", x.meeting(0, 10000), 5);
        promise = 20;
        for (int bad : new int[] {-1, 3, LOW, HIGH}) {
            none("such a what", x.met(0, 5, bad), 5);
        }
        number("all unknown", x.met(0, 50, 2), 50);
        number("only those due", x.met(0, 49, 2), 1);
        promise = 19;
        yes("tell(2, true, 60)", x.tell(2, true, 60));
        yes("tell(4, false, 50)", x.tell(4, false, 50));
        number("not told by then", x.met(0, 59, 2), 49);
        number("slipped", x.met(0, 59, 1), 1);
        number("kept", x.met(0, 60, 0), 1);
        number("unknown", x.met(0, 60, 2), 48);
        number("of the other one", x.met(1, 60, 0), 0);
        yes("told again, later", x.tell(2, false, 70));
        yes("told again, of a day between", x.tell(2, true, 65));
        number("the latest day counts", x.met(0, 70, 1), 2);
        number("as known then", x.met(0, 69, 0), 1);
        yes("told again, of the same day", x.tell(2, true, 70));
        number("the later call counts", x.met(0, 70, 0), 1);
        yes("and again", x.tell(2, false, 70));
        number("the later call counts", x.met(0, 70, 0), 0);
        number("nothing told by then", x.met(0, 55, 2), 49);
    }

    private static void tellLimits() {
        begin(19);
        people(1);
        x.meeting(0, 10);
        for (int bad : new int[] {-1, 1, LOW, HIGH}) {
            no("tell of no such meeting", x.tell(bad, true, 10000), 2);
        }
        for (int bad : new int[] {-1, 9, 10000, LOW, HIGH}) {
            no("tell on no such day", x.tell(0, true, bad), 5);
        }
        number("nothing was told", x.met(0, 9999, 2), 1);
        for (int i = 0; i < 200; i++) {
            yes("tell", x.tell(0, i % 2 == 0, 9999 - i));
        }
        no("one telling too many", x.tell(0, false, 9999), 7);
        no("ahead of the due day", x.tell(0, false, 9), 5);
        no("no such meeting", x.tell(1, false, 9), 2);
        number("met(0, 9999, 0)", x.met(0, 9999, 0), 1);
        number("met(0, 9998, 1)", x.met(0, 9998, 1), 1);
        number("met(0, 9799, 2)", x.met(0, 9799, 2), 1);
    }

    // ---- 21 to 23

    private static void goals() {
        begin(21);
        people(2);
        for (int bad : new int[] {-1, 2, LOW, HIGH}) {
            none("goal of no such beginner", x.goal(bad, -1, -1), 2);
        }
        number("goal(0, 0, -1)", x.goal(0, 0, -1), 0);
        for (int bad : new int[] {-2, 1, LOW, HIGH}) {
            none("behind no such goal", x.goal(0, -1, bad), 2);
        }
        none("behind one of another beginner", x.goal(1, 5, 0), 2);
        for (int bad : new int[] {-1, 10000, LOW, HIGH}) {
            none("goal on no such day", x.goal(0, bad, 0), 5);
            no("confirm on no such day", x.confirm(0, bad), 5);
            none("goalAt on no such day", x.goalAt(0, bad), 5);
        }
        for (int bad : new int[] {-1, 1, LOW, HIGH}) {
            no("confirm of no such goal", x.confirm(bad, -1), 2);
            none("goalAt of no such goal", x.goalAt(bad, -1), 2);
        }
        for (int i = 1; i < 40; i++) {
            number("goal", x.goal(0, 9999, i - 1), i);
        }
        none("one goal too many", x.goal(0, 9999, 0), 7);
        none("a bad day ahead of it", x.goal(0, 10000, 0), 5);
        none("no such goal ahead of it", x.goal(0, 10000, 40), 2);
        promise = 23;
        for (int i = 0; i < 40; i++) {
            yes("confirm", x.confirm(i, i == 0 ? 0 : 9999));
        }
        number("the whole chain", x.goalAt(39, 9999), 1);
        number("not yet", x.goalAt(39, 9998), 0);
        x = new MentorPairs();
        people(1);
        for (int i = 0; i < 40; i++) {
            number("goal", x.goal(0, 9999, i - 1), i);
            if (i > 0) {
                yes("confirm", x.confirm(i, 5));
            }
        }
        number("the first of the chain is not reached", x.goalAt(39, 9999), 0);
        yes("confirm(0, 5)", x.confirm(0, 5));
        number("the first of the chain is reached", x.goalAt(39, 5), 1);
    }

    private static void goalChains() {
        begin(22);
        people(1);
        x.goal(0, 10, -1);
        x.goal(0, 20, 0);
        x.goal(0, 20, 1);
        yes("confirm(0, 10)", x.confirm(0, 10));
        no("once", x.confirm(0, 10), 8);
        no("a bad day ahead of it", x.confirm(0, 10000), 5);
        promise = 23;
        number("not yet", x.goalAt(0, 9), 0);
        number("on the due day", x.goalAt(0, 10), 1);
        number("later too", x.goalAt(0, 9999), 1);
        yes("confirm(1, 10)", x.confirm(1, 10));
        number("behind one of the same day", x.goalAt(1, 10), 1);
        yes("confirm(2, 9)", x.confirm(2, 9));
        number("the one ahead was not reached then", x.goalAt(2, 10), 0);
        number("open on the due day", x.goalAt(2, 20), 0);
        number("missed behind it", x.goalAt(2, 21), 2);
        x = new MentorPairs();
        people(1);
        x.goal(0, 5, -1);
        x.goal(0, 20, 0);
        x.goal(0, 30, -1);
        yes("confirmed behind its due day", x.confirm(0, 6));
        yes("confirm(1, 7)", x.confirm(1, 7));
        number("open on its due day", x.goalAt(0, 5), 0);
        number("missed", x.goalAt(0, 6), 2);
        number("so the next is not reached", x.goalAt(1, 7), 0);
        number("and missed", x.goalAt(1, 21), 2);
        number("never confirmed", x.goalAt(2, 30), 0);
        number("never confirmed", x.goalAt(2, 31), 2);
    }

    // ---- 24 to 28

    private static void runs() {
        begin(24);
        for (int bad : new int[] {0, 61, -1, LOW, HIGH}) {
            no("such months", x.run(bad, true), 5);
        }
        no("nothing was told", x.lasts(5), 9);
        yes("run(1, false)", x.run(1, false));
        yes("run(60, true)", x.run(60, true));
        for (int i = 2; i < 16; i++) {
            yes("run", x.run(60, false));
        }
        no("one run too many", x.run(60, false), 7);
        no("such months ahead of it", x.run(61, false), 5);
        fraction("lasts(60)", x.lasts(60), 14, 15);
        promise = 25;
        yes("clear()", x.clear());
        yes("clear() of none", x.clear());
        no("lasts(60)", x.lasts(60), 9);
        due("upper() stays", x.upper(), 14);
        due("lower() stays", x.lower(), 15);
        for (int i = 0; i < 16; i++) {
            yes("run", x.run(1, true));
        }
        no("one too many again", x.run(1, true), 7);
    }

    private static void lasts() {
        begin(26);
        no("such m ahead of no runs", x.lasts(61), 5);
        x.run(2, true);
        x.run(2, true);
        x.run(2, false);
        x.run(4, true);
        x.run(4, false);
        x.run(7, true);
        for (int bad : new int[] {-1, 61, LOW, HIGH}) {
            no("such m", x.lasts(bad), 5);
        }
        fraction("lasts(0)", x.lasts(0), 1, 1);
        fraction("lasts(1)", x.lasts(1), 1, 1);
        fraction("lasts(2)", x.lasts(2), 2, 3);
        fraction("lasts(3)", x.lasts(3), 2, 3);
        fraction("lasts(4)", x.lasts(4), 4, 9);
        fraction("lasts(6)", x.lasts(6), 4, 9);
        promise = 27;
        no("lasts(61)", x.lasts(61), 5);
        due("upper() stays", x.upper(), 4);
        promise = 28;
        due("lower() stays", x.lower(), 9);
        fraction("lasts(7)", x.lasts(7), 0, 1);
        fraction("lasts(60)", x.lasts(60), 0, 1);
        x.clear();
        for (int i = 0; i < 16; i++) {
            x.run(2 * (i / 2) + 1 + i % 2, i % 2 == 0);
        }
        fraction("every other one still going", x.lasts(15), 6435, 32768);
    }

    // ---- 29, 30

    private static void gain() {
        begin(29);
        fill(0, 0, 0, 100, 33, 7, 9);
        fraction("gain(0, 2, 1)", x.gain(0, 2, 1), -100, 1);
        fraction("gain(0, 2, 2)", x.gain(0, 2, 2), 100, 1);
        fraction("gain(0, 3, 6)", x.gain(0, 3, 6), 133, 2);
        fraction("gain(0, 5, 8)", x.gain(0, 5, 8), -57, 2);
        fraction("gain(0, 5, 24)", x.gain(0, 5, 24), -109, 3);
        fraction("gain(0, 5, 30)", x.gain(0, 5, 30), 149, 4);
        fill(1, 3, 5, 5, 5);
        fraction("no gain", x.gain(1, 3, 2), 0, 1);
        x.tray(2, 3, 16);
        for (int i = 0; i < 16; i++) {
            x.write(2, i, i < 8 ? 100 : i);
        }
        fraction("gain(2, 16, 255)", x.gain(2, 16, 255), 177, 2);
        fraction("gain(2, 16, 65534)", x.gain(2, 16, 65534), -236, 5);
        x.tray(2, 3, 16);
        number("trays stay", x.read(1, 2), 5);
        fraction("gain(2, 16, 3)", x.gain(2, 16, 3), 0, 1);
    }

    private static void chance() {
        begin(30);
        fill(0, 0, 1, 2, 3, 4, 5, 6, 6);
        fraction("the best set", x.chance(0, 6, 32 + 16 + 8), 1, 20);
        fraction("the worst set", x.chance(0, 6, 7), 1, 1);
        fraction("one between", x.chance(0, 6, 32 + 8 + 4), 1, 5);
        fraction("one of two best", x.chance(0, 7, 64), 2, 7);
        fraction("all but one", x.chance(0, 6, 63 - 1), 1, 6);
        fraction("all but one", x.chance(0, 6, 63 - 32), 1, 1);
        x.tray(1, 0, 16);
        for (int i = 0; i < 16; i++) {
            x.write(1, i, i);
        }
        fraction("the best of 12,870", x.chance(1, 16, 0xff00), 1, 12870);
        fraction("the worst of 12,870", x.chance(1, 16, 0x00ff), 1, 1);
        fraction("the next best", x.chance(1, 16, 0xfe80), 1, 6435);
        x.tray(1, 0, 16);
        fraction("all the same", x.chance(1, 16, 0x0101), 1, 1);
    }

    private static void trialFaults() {
        for (int p = 29; p <= 30; p++) {
            begin(p);
            fill(0, 1, 50, 60, 70, 101, -1);
            for (int bad : new int[] {-1, 4, LOW, HIGH}) {
                no("no such tray", trial(bad, 1, 0), 1);
            }
            no("missing", trial(1, 1, 0), 3);
            for (int bad : new int[] {-1, 0, 1, 17, LOW, HIGH}) {
                no("such n", trial(0, bad, 0), 5);
            }
            no("n behind the end", trial(0, 6, 0), 4);
            no("n behind the end", trial(0, 16, 0), 4);
            for (int bad : new int[] {-1, 0, 7, 8, 9, LOW, HIGH}) {
                no("such a set", trial(0, 3, bad), 5);
            }
            no("an outcome above 100", trial(0, 4, 1), 5);
            x.write(0, 0, 101);
            no("the first outcome above 100", trial(0, 2, 1), 5);
            x.write(0, 0, 50);
            x.write(0, 3, 100);
            no("an outcome below 0", trial(0, 5, 1), 5);
            due("upper() stays", x.upper(), 0);
            due("lower() stays", x.lower(), 1);
            yes("only the first n count", trial(0, 4, 1));
            x.write(0, 4, 0);
            yes("0 and 100 are fine", trial(0, 5, 30));
            x.tray(0, 3, 2);
            x.write(0, 1, 1L << 32);
            no("no outcome in 64 bits", trial(0, 2, 1), 5);
        }
    }

    private static boolean trial(int tray, int n, int helped) {
        return promise == 29 ? x.gain(tray, n, helped) : x.chance(tray, n, helped);
    }

    // ---- 31

    private static void draw() {
        begin(31);
        for (int bad : new int[] {-1, 0, 17, LOW, HIGH}) {
            none("such n", x.draw(bad, 0, 0), 5);
        }
        for (int bad : new int[] {-1, 5, LOW, HIGH}) {
            none("such k", x.draw(4, bad, 0), 5);
        }
        none("such a seed", x.draw(4, 2, -1), 5);
        none("such a seed", x.draw(4, 2, LOW), 5);
        number("one of one", x.draw(1, 1, 0), 1);
        number("none of one", x.draw(1, 0, HIGH), 0);
        number("none", x.draw(16, 0, 12345), 0);
        number("all", x.draw(16, 16, 12345), 65535);
        number("as the document's shared test has it", x.draw(4, 2, 1), 10);
        // seed 0: 12345 (LOT 0), 1406932606 (21468), 654583775 (9988), 1449466924 (22117)
        number("draw(2, 1, 0)", x.draw(2, 1, 0), 1);
        number("draw(3, 2, 0)", x.draw(3, 2, 0), 3);
        number("draw(4, 2, 0)", x.draw(4, 2, 0), 3);
        number("draw(4, 1, 2147483647)", x.draw(4, 1, HIGH), drawn(4, 1, HIGH));
        for (int seed = 0; seed < 20; seed++) {
            int set = x.draw(16, 8, seed * 99_999_989);
            due("as many as asked for", Integer.bitCount(set), 8);
            due("draw(16, 8, ..)", set, drawn(16, 8, seed * 99_999_989));
        }
        due("upper() is not touched", x.upper(), 0);
    }

    private static int drawn(int n, int k, int seed) {
        long s = seed;
        int set = 0;
        for (int i = 0; i < n; i++) {
            s = Math.floorMod(1_103_515_245L * s + 12_345L, 2_147_483_648L);
            if (s / 65_536 % (n - i) < k - Integer.bitCount(set)) {
                set += 1 << i;
            }
        }
        return set;
    }
}
