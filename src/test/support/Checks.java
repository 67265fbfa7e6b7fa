/** What the tests by sentences share: the sentence that is asked, the house it is asked of, and the count of faults. */
abstract class Checks {
    static final int NONE = MentorPairs.NONE;
    static final int LOW = Integer.MIN_VALUE;
    static final int HIGH = Integer.MAX_VALUE;

    static House x = new House();

    private static String words = "";
    private static int sentences = 0;
    private static int wrong = 0;

    /** Begins the test of a sentence of the document, with a new house. */
    static void sentence(String text) {
        anew();
        words = text;
        sentences++;
    }

    /** Another house for the same sentence. */
    static void anew() {
        x.compareWithTwin();
        x = new House();
    }

    static void fault(String what) {
        wrong++;
        System.out.println("\"" + words + "\": " + what);
    }

    static void due(String what, long got, long want) {
        if (got != want) {
            fault(what + " answered " + got + ", due is " + want);
        }
    }

    private static void dueStatus(int want) {
        due(x.latest() + ", status()", x.latestStatus(), want);
    }

    static void yes(boolean got) {
        due(x.latest(), got ? 1 : 0, 1);
        dueStatus(0);
    }

    /** A refused call that gives false. */
    static void no(int status, boolean got) {
        due(x.latest(), got ? 1 : 0, 0);
        dueStatus(status);
    }

    static void is(long want, long got) {
        due(x.latest(), got, want);
        dueStatus(0);
    }

    /** A refused call that gives NONE. */
    static void none(int status, long got) {
        due(x.latest(), got, NONE);
        dueStatus(status);
    }

    static void fraction(long upper, long lower, boolean got) {
        yes(got);
        fractionIs(upper, lower);
    }

    static void fractionIs(long upper, long lower) {
        due(x.latest() + ", upper()", x.upper(), upper);
        due(x.latest() + ", lower()", x.lower(), lower);
    }

    /** The numbers right outside a range, and the utmost ones. */
    static int[] outside(int least, int most) {
        return new int[] {least - 1, most + 1, LOW, HIGH};
    }

    static void elders(int... places) {
        for (int p : places) {
            x.elder(p);
        }
    }

    static void beginners(int many) {
        for (int b = 0; b < many; b++) {
            x.beginner();
        }
    }

    /** Both likings at once. */
    static void like(int elder, int beginner, int byElder, int byBeginner) {
        yes(x.like(elder, beginner, true, byElder));
        yes(x.like(elder, beginner, false, byBeginner));
    }

    /** Of beginner 0, 1 .. the elder, or NONE. */
    static void pairsAre(int... elders) {
        for (int b = 0; b < elders.length; b++) {
            if (elders[b] == NONE) {
                none(9, x.elderOf(b));
            } else {
                is(elders[b], x.elderOf(b));
            }
        }
    }

    static void fill(int tray, int sort, long... numbers) {
        yes(x.tray(tray, sort, numbers.length));
        for (int i = 0; i < numbers.length; i++) {
            yes(x.write(tray, i, numbers[i]));
        }
    }

    static void holds(int tray, long... numbers) {
        for (int i = 0; i < numbers.length; i++) {
            is(numbers[i], x.read(tray, i));
        }
        none(4, x.read(tray, numbers.length));
    }

    static void end() {
        anew();
        System.out.println(wrong == 0 ? sentences + " sentences hold" : wrong + " answers are not as due");
        if (wrong != 0) {
            System.exit(1);
        }
    }
}
