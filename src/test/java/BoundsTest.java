/** The sentences of "Promise 1" to "Promise 31": the edges of each, and each STATUS in their brackets. */
public final class BoundsTest extends Checks {
    public static void main(String[] args) {
        newObject();
        status();
        tray();
        write();
        read();
        pour();
        elder();
        beginner();
        places();
        like();
        bar();
        pair();
        elderOf();
        has();
        blocks();
        block();
        change();
        meeting();
        tell();
        met();
        goal();
        confirm();
        goalAt();
        run();
        clear();
        lasts();
        upperAndLower();
        gain();
        chance();
        draw();
        end();
    }

    private static void newObject() {
        sentence("Promise 1: TRAYS are MISSING");
        for (int t = 0; t < 4; t++) {
            none(3, x.read(t, 0));
            no(3, x.pour(t, 0, t, 0, 0));
        }

        sentence("Promise 1: nothing is told");
        none(2, x.has(0));
        none(2, x.elderOf(0));
        none(10, x.blocks());
        no(2, x.tell(0, true, 0));
        none(2, x.goalAt(0, 0));
        no(9, x.lasts(60));
        is(0, x.elder(0));
        is(0, x.beginner());
        is(0, x.meeting(0, 0));
        is(0, x.goal(0, 0, NONE));

        sentence("Promise 1: the FRACTION 0 by 1");
        fractionIs(0, 1);

        sentence("Promise 1: STATUS 0");
        due("status() of a new object", x.status(), 0);
        due("status() once more", x.status(), 0);

        sentence("Promise 1: a new object is not touched by what others were told");
        MentorPairs y = new MentorPairs();
        y.elder(1);
        y.beginner();
        y.tray(0, 0, 1);
        y.run(1, false);
        y.lasts(1);
        y.pair();
        y.elder(9);
        due("status() beside another object", x.status(), 0);
        fractionIs(0, 1);
        none(3, x.read(0, 0));
        none(10, x.blocks());
        is(0, x.elder(1));
    }

    private static void status() {
        sentence("Promise 2: The STATUS of the latest call that has one.");
        none(5, x.elder(5));
        none(3, x.read(0, 0));
        due("status()", x.status(), 3);
        is(0, x.elder(4));
        due("status()", x.status(), 0);
        no(1, x.tray(4, 0, 0));
        due("status()", x.status(), 1);
        x.upper();
        x.lower();
        due("status()", x.status(), 1);
    }

    // ---- TRAYS

    private static void tray() {
        sentence("Promise 3: A TRAY is a row of so many numbers (at most 40; 5)");
        yes(x.tray(0, 3, 40));
        yes(x.write(0, 39, 5));
        none(4, x.read(0, 40));
        no(5, x.tray(0, 3, 41));
        no(5, x.tray(0, 3, HIGH));
        is(5, x.read(0, 39));
        yes(x.tray(0, 3, 39));
        none(4, x.read(0, 39));
        yes(x.tray(0, 3, 1));
        is(0, x.read(0, 0));
        none(4, x.read(0, 1));

        sentence("Promise 3: a row of no numbers");
        yes(x.tray(0, 0, 0));
        none(4, x.read(0, 0));
        no(4, x.write(0, 0, 1));
        yes(x.pour(0, 0, 0, 0, 0));
        no(4, x.pour(0, 0, 0, 0, 1));

        sentence("Promise 3: all 0");
        for (int i = 0; i < 40; i++) {
            if (i == 0) {
                yes(x.tray(1, 0, 40));
            }
            is(0, x.read(1, i));
            yes(x.write(1, i, 1 + i));
        }
        yes(x.tray(1, 0, 2));
        holds(1, 0, 0);
        yes(x.tray(1, 0, 40));
        for (int i = 0; i < 40; i++) {
            is(0, x.read(1, i));
        }

        sentence("Promise 3: made anew, with another sort");
        fill(2, 3, 1L << 40);
        yes(x.tray(2, 0, 1));
        yes(x.write(2, 0, 200));
        holds(2, -56);

        sentence("Promise 3: (1; 5; 6)");
        for (int bad : outside(0, 3)) {
            no(1, x.tray(bad, 0, 0));
            no(1, x.tray(0, bad, 0));
        }
        no(5, x.tray(0, 0, 41));
        no(6, x.tray(0, 0, -1));
        no(6, x.tray(0, 0, LOW));
        none(3, x.read(0, 0));
    }

    private static void write() {
        sentence("Promise 4: A number comes to a place of a TRAY");
        fill(0, 0, 1, 2, 3);
        fill(1, 0, 4, 5, 6);
        yes(x.write(0, 0, 11));
        yes(x.write(0, 2, 13));
        holds(0, 11, 2, 13);
        holds(1, 4, 5, 6);

        sentence("Promise 4: (1; 3; 4)");
        fill(0, 0, 1, 2, 3);
        for (int bad : outside(0, 3)) {
            no(1, x.write(bad, 0, 9));
        }
        no(3, x.write(1, 0, 9));
        for (int bad : outside(0, 2)) {
            no(4, x.write(0, bad, 9));
        }
        holds(0, 1, 2, 3);
    }

    private static void read() {
        sentence("Promise 5: The number in a place of a TRAY");
        fill(3, 3, Long.MIN_VALUE, 0, Long.MAX_VALUE);
        holds(3, Long.MIN_VALUE, 0, Long.MAX_VALUE);
        holds(3, Long.MIN_VALUE, 0, Long.MAX_VALUE);

        sentence("Promise 5: STATUS tells NONE from -1");
        for (int sort = 0; sort < 4; sort++) {
            fill(0, sort, -1);
            is(-1, x.read(0, 0));
            none(4, x.read(0, 1));
        }

        sentence("Promise 5: (1; 3; 4)");
        fill(0, 0, 1, 2, 3);
        for (int bad : outside(0, 3)) {
            none(1, x.read(bad, 0));
        }
        none(3, x.read(3, 0));
        for (int bad : outside(0, 2)) {
            none(4, x.read(0, bad));
        }
    }

    private static void pour() {
        sentence("Promise 6: come to place j on of another one");
        fill(0, 3, 1, 2, 3, 4);
        fill(1, 3, 7, 8, 9);
        yes(x.pour(0, 2, 1, 0, 2));
        holds(1, 3, 4, 9);
        holds(0, 1, 2, 3, 4);
        yes(x.pour(0, 0, 1, 2, 1));
        holds(1, 3, 4, 1);
        yes(x.pour(0, 1, 1, 0, 3));
        holds(1, 2, 3, 4);

        sentence("Promise 6: or the same, as they were");
        fill(0, 1, 1, 2, 3, 4, 5);
        yes(x.pour(0, 0, 0, 1, 4));
        holds(0, 1, 1, 2, 3, 4);
        yes(x.pour(0, 2, 0, 0, 3));
        holds(0, 2, 3, 4, 3, 4);
        yes(x.pour(0, 0, 0, 0, 5));
        holds(0, 2, 3, 4, 3, 4);

        pourLimits();
        pourMany();
    }

    private static void pourLimits() {
        sentence("Promise 6: 1, 3 (either), 11, 6, 4");
        fill(0, 0, 1, 2, 3);
        fill(1, 0, 4, 5);
        fill(2, 1, 6, 7);
        for (int bad : outside(0, 3)) {
            no(1, x.pour(bad, 0, 1, 0, 1));
            no(1, x.pour(0, 0, bad, 0, 1));
        }
        no(3, x.pour(3, 0, 0, 0, 1));
        no(3, x.pour(0, 0, 3, 0, 1));
        no(11, x.pour(0, 0, 2, 0, 1));
        no(11, x.pour(2, 0, 0, 0, 1));
        no(6, x.pour(0, 0, 1, 0, -1));
        no(6, x.pour(0, 0, 1, 0, LOW));
        no(4, x.pour(0, -1, 1, 0, 1));
        no(4, x.pour(0, 0, 1, -1, 1));
        no(4, x.pour(0, 3, 1, 0, 1));
        no(4, x.pour(0, 0, 1, 2, 1));
        no(4, x.pour(0, 0, 1, 0, 3));
        no(4, x.pour(1, 0, 0, 0, 3));
        no(4, x.pour(0, -1, 1, 0, 0));
        no(4, x.pour(0, 0, 1, -1, 0));
        holds(0, 1, 2, 3);
        holds(1, 4, 5);

        sentence("Promise 6: a place that the TRAY has not, where a sum would wrap around");
        fill(0, 0, 1, 2, 3);
        no(4, x.pour(0, 1, 0, 0, HIGH));
        no(4, x.pour(0, 0, 0, 1, HIGH));
        no(4, x.pour(0, HIGH, 0, 0, 1));
        no(4, x.pour(0, 0, 0, HIGH, 1));
        no(4, x.pour(0, HIGH, 0, HIGH, HIGH));
        no(4, x.pour(0, LOW, 0, 0, 1));
        no(4, x.pour(0, 0, 0, LOW, 1));
        no(4, x.pour(0, LOW, 0, LOW, HIGH));
        holds(0, 1, 2, 3);
    }

    private static void pourMany() {
        sentence("Promise 6: So many numbers: none, and all");
        fill(0, 2, 1, 2, 3);
        fill(1, 2, 4, 5, 6);
        yes(x.pour(0, 0, 1, 0, 0));
        yes(x.pour(0, 2, 1, 2, 0));
        holds(1, 4, 5, 6);
        yes(x.pour(0, 0, 1, 0, 3));
        holds(1, 1, 2, 3);
        yes(x.tray(2, 3, 40));
        yes(x.tray(3, 3, 40));
        yes(x.write(2, 0, Long.MIN_VALUE));
        yes(x.write(2, 39, Long.MAX_VALUE));
        yes(x.pour(2, 0, 3, 0, 40));
        is(Long.MIN_VALUE, x.read(3, 0));
        is(Long.MAX_VALUE, x.read(3, 39));
        no(4, x.pour(2, 0, 3, 0, 41));
        no(4, x.pour(2, 1, 3, 0, 40));
        no(4, x.pour(2, 0, 3, 1, 40));
        yes(x.pour(2, 39, 3, 0, 1));
        is(Long.MAX_VALUE, x.read(3, 0));
    }

    // ---- pairs

    private static void elder() {
        sentence("Promise 7: An ELDER more: the number (5; 7).");
        for (int bad : outside(0, 4)) {
            none(5, x.elder(bad));
        }
        for (int e = 0; e < 12; e++) {
            is(e, x.elder(e % 5));
        }
        none(7, x.elder(0));
        none(7, x.elder(4));
        none(5, x.elder(5));
        is(0, x.pair());
        is(0, x.has(11));

        sentence("Promise 7: with as many PLACES as told");
        beginners(5);
        for (int places = 0; places <= 4; places++) {
            is(places, x.elder(places));
        }
        for (int b = 0; b < 5; b++) {
            for (int e = 0; e < 5; e++) {
                like(e, b, 1, e == 4 ? 100 : 1);
            }
        }
        is(5, x.pair());
        is(0, x.has(0));
        is(1, x.has(1));
        is(0, x.has(2));
        is(4, x.has(4));
    }

    private static void beginner() {
        sentence("Promise 8: A BEGINNER more: the number (7).");
        for (int b = 0; b < 16; b++) {
            none(2, x.meeting(b, 0));
            is(b, x.beginner());
            is(b, x.meeting(b, 0));
        }
        none(7, x.beginner());
        none(2, x.meeting(16, 0));
    }

    private static void places() {
        sentence("Promise 9: PLACES of an ELDER (2; 5).");
        elders(0, 4);
        beginners(5);
        for (int b = 0; b < 5; b++) {
            like(0, b, 1, 1);
        }
        for (int bad : outside(0, 1)) {
            no(2, x.places(bad, 1));
        }
        for (int bad : outside(0, 4)) {
            no(5, x.places(0, bad));
        }
        is(0, x.pair());
        yes(x.places(0, 4));
        is(4, x.pair());
        yes(x.places(0, 4));
        yes(x.places(1, 0));
        is(4, x.pair());
        yes(x.places(0, 0));
        is(4, x.has(0));
        is(0, x.pair());
    }

    private static void like() {
        sentence("Promise 10: The LIKING of an ELDER for a BEGINNER (by the ELDER true), or the other way round");
        elders(1);
        beginners(2);
        like(0, 0, 20, 10);
        like(0, 1, 10, 20);
        is(1, x.pair());
        pairsAre(0, NONE);
        anew();
        elders(1, 1);
        beginners(1);
        like(0, 0, 20, 10);
        like(1, 0, 10, 20);
        is(1, x.pair());
        pairsAre(1);

        sentence("Promise 10: (2; 5)");
        elders(1, 1);
        beginners(2);
        like(0, 0, 1, 1);
        for (boolean byElder : new boolean[] {true, false}) {
            for (int bad : outside(0, 1)) {
                no(2, x.like(bad, 0, byElder, 0));
                no(2, x.like(0, bad, byElder, 0));
            }
            for (int bad : outside(0, 100)) {
                no(5, x.like(0, 0, byElder, bad));
            }
        }
        is(1, x.pair());
        like(0, 0, 0, 0);
        is(0, x.pair());
        like(0, 0, 100, 100);
        is(1, x.pair());

        sentence("Promise 10: of these two alone, at the ends of both rows");
        elders(1, 1, 1, 1, 1, 1, 1, 1, 1, 1, 1, 1);
        beginners(16);
        like(11, 15, 1, 1);
        like(0, 0, 1, 1);
        is(2, x.pair());
        is(0, x.elderOf(0));
        is(11, x.elderOf(15));
        is(0, x.block(11, 0));
        is(0, x.block(0, 15));
        is(0, x.block(1, 0));
    }

    private static void bar() {
        sentence("Promise 11: An ELDER and a BEGINNER are BARRED, or no more (2; 8).");
        elders(1, 1);
        beginners(2);
        like(0, 0, 1, 1);
        like(1, 1, 1, 1);
        for (boolean is : new boolean[] {true, false}) {
            for (int bad : outside(0, 1)) {
                no(2, x.bar(bad, 0, is));
                no(2, x.bar(0, bad, is));
            }
        }
        no(8, x.bar(0, 0, false));
        is(2, x.pair());
        yes(x.bar(0, 0, true));
        no(8, x.bar(0, 0, true));
        is(1, x.pair());
        pairsAre(NONE, 1);
        yes(x.bar(0, 0, false));
        no(8, x.bar(0, 0, false));
        is(2, x.pair());
    }

    private static void pair() {
        sentence("Promise 12: BEST is GIVEN: how many pairs: of nobody none");
        is(0, x.pair());
        is(0, x.blocks());
        is(0, x.elder(4));
        is(0, x.pair());
        anew();
        beginners(16);
        is(0, x.pair());

        sentence("Promise 12: how many pairs: all PLACES, no more");
        elders(4, 4, 4);
        beginners(16);
        for (int b = 0; b < 16; b++) {
            for (int e = 0; e < 3; e++) {
                if (e == b % 3 || b < 12) {
                    x.like(e, b, true, 50);
                    x.like(e, b, false, 50);
                }
            }
        }
        is(12, x.pair());
        is(4, x.has(0));
        is(4, x.has(1));
        is(4, x.has(2));
        is(0, x.blocks());

        sentence("Promise 12: BEST is GIVEN: anew with each call, whatever was given");
        elders(1, 1);
        beginners(1);
        like(0, 0, 5, 5);
        is(1, x.pair());
        pairsAre(0);
        like(1, 0, 5, 6);
        is(1, x.pair());
        pairsAre(1);
        is(1, x.pair());
        pairsAre(1);
        like(0, 0, 0, 0);
        like(1, 0, 0, 0);
        is(0, x.pair());
        pairsAre(NONE);

        longChains();
        longestAsking();
    }

    /** Each elder prefers the next beginner, who sends the one ahead of them on to the next elder. */
    private static void longChains() {
        sentence("Promise 12: BEST, where each one sends the one ahead away");
        elders(1, 1, 1, 1, 1, 1);
        beginners(6);
        for (int b = 0; b < 6; b++) {
            for (int e = 0; e < 6; e++) {
                like(e, b, 10 + b, 60 - e);
            }
        }
        is(6, x.pair());
        pairsAre(5, 4, 3, 2, 1, 0);
        is(0, x.blocks());
    }

    /**
     * As long as it can take among twelve and twelve: only when the last beginner comes, all others
     * are sent on from elder to elder, until each elder but the last has whom they like most.
     */
    private static void longestAsking() {
        sentence("Promise 12: BEST, where it takes longest to come to");
        MentorPairs y = new MentorPairs();
        for (int i = 0; i < 12; i++) {
            y.elder(1);
            y.beginner();
        }
        for (int e = 0; e < 12; e++) {
            for (int b = 0; b < 12; b++) {
                int stepsToElder = e == 11 ? 11 : Math.floorMod(e - (b == 11 ? 0 : b), 11);
                int stepsToBeginner = Math.floorMod(b - e - 1, 11);
                boolean isFirst = b != 11 && stepsToBeginner == 0;
                y.like(e, b, false, 100 - stepsToElder);
                y.like(e, b, true, isFirst ? 100 : b == 11 ? 99 : 98 - stepsToBeginner);
            }
        }
        due("pair()", y.pair(), 12);
        for (int b = 0; b < 12; b++) {
            due("elderOf(" + b + ")", y.elderOf(b), b == 11 ? 11 : Math.floorMod(b - 1, 11));
        }
        due("blocks()", y.blocks(), 0);
    }

    private static void elderOf() {
        sentence("Promise 13: The ELDER of a BEGINNER, GIVEN (2; 10; 9: none)");
        elders(1, 1);
        beginners(2);
        like(1, 0, 1, 1);
        for (int bad : outside(0, 1)) {
            none(2, x.elderOf(bad));
        }
        none(10, x.elderOf(0));
        none(10, x.elderOf(1));
        is(1, x.pair());
        is(1, x.elderOf(0));
        none(9, x.elderOf(1));
        for (int bad : outside(0, 1)) {
            none(2, x.elderOf(bad));
        }

        sentence("Promise 13: of one who came later none");
        elders(4);
        is(0, x.pair());
        is(0, x.beginner());
        none(9, x.elderOf(0));
        like(0, 0, 1, 1);
        none(9, x.elderOf(0));
        is(1, x.pair());
        is(0, x.elderOf(0));
    }

    private static void has() {
        sentence("Promise 14: How many BEGINNERS an ELDER has, GIVEN (2; 10).");
        elders(4, 1);
        beginners(4);
        for (int b = 0; b < 4; b++) {
            like(0, b, 1, 1);
        }
        for (int bad : outside(0, 1)) {
            none(2, x.has(bad));
        }
        none(10, x.has(0));
        none(10, x.has(1));
        is(4, x.pair());
        is(4, x.has(0));
        is(0, x.has(1));
        is(2, x.elder(4));
        is(0, x.has(2));
        for (int bad : outside(0, 2)) {
            none(2, x.has(bad));
        }
        like(1, 3, 1, 1);
        is(1, x.change(3));
        is(3, x.has(0));
        is(1, x.has(1));
    }

    private static void blocks() {
        sentence("Promise 15: How many BLOCK the PAIRING that is GIVEN (10).");
        none(10, x.blocks());
        is(0, x.pair());
        is(0, x.blocks());

        sentence("Promise 15: by what is told now");
        elders(1, 1);
        beginners(2);
        is(0, x.pair());
        for (int e = 0; e < 2; e++) {
            for (int b = 0; b < 2; b++) {
                like(e, b, 1, 1);
                is(2 * e + b + 1, x.blocks());
            }
        }
        yes(x.places(0, 0));
        is(2, x.blocks());
        yes(x.bar(1, 0, true));
        is(1, x.blocks());
        is(2, x.beginner());
        like(1, 2, 1, 1);
        is(2, x.blocks());
        is(2, x.elder(1));
        like(2, 2, 1, 1);
        is(3, x.blocks());

        pairsAsTheyAre();
        mostBlocks();
    }

    private static void pairsAsTheyAre() {
        sentence("Promise 15: pairs of it that CAN'T be any more are as they are");
        elders(1, 1);
        beginners(2);
        like(0, 0, 50, 50);
        is(1, x.pair());
        yes(x.bar(0, 0, true));
        like(1, 0, 100, 49);
        is(0, x.blocks());
        like(0, 1, 49, 1);
        is(0, x.blocks());
        yes(x.like(0, 1, true, 51));
        is(1, x.block(0, 1));
        yes(x.like(1, 0, false, 51));
        is(1, x.block(1, 0));
        is(2, x.blocks());
        pairsAre(0, NONE);
        like(0, 0, 0, 0);
        is(0, x.block(0, 0));
        is(2, x.blocks());
        is(1, x.has(0));
    }

    private static void mostBlocks() {
        sentence("Promise 15: How many: of all there may be");
        elders(1, 1, 1, 1, 1, 1);
        beginners(16);
        is(0, x.pair());
        for (int e = 0; e < 6; e++) {
            for (int b = 0; b < 16; b++) {
                x.like(e, b, true, 1);
                x.like(e, b, false, 1);
            }
        }
        is(96, x.blocks());
        is(1, x.block(5, 15));
    }

    private static void block() {
        sentence("Promise 16: Whether an ELDER and a BEGINNER are among these: 1 or 0 (2; 10).");
        elders(1, 1);
        beginners(2);
        for (int bad : outside(0, 1)) {
            none(2, x.block(bad, 0));
            none(2, x.block(0, bad));
        }
        none(10, x.block(0, 0));
        none(10, x.block(1, 1));
        is(0, x.pair());
        like(1, 1, 1, 1);
        is(0, x.block(0, 0));
        is(0, x.block(0, 1));
        is(0, x.block(1, 0));
        is(1, x.block(1, 1));
        for (int bad : outside(0, 1)) {
            none(2, x.block(bad, 0));
            none(2, x.block(0, bad));
        }

        sentence("Promise 16: an ELDER with more than PLACES has none left");
        elders(2);
        beginners(3);
        like(0, 0, 10, 1);
        like(0, 1, 30, 1);
        is(2, x.pair());
        yes(x.places(0, 1));
        like(0, 2, 10, 1);
        is(0, x.block(0, 2));
        yes(x.like(0, 2, true, 11));
        is(1, x.block(0, 2));
        yes(x.places(0, 0));
        is(1, x.block(0, 2));
    }

    private static void change() {
        sentence("Promise 17: A CHANGE: how many are moved");
        elders(1, 1, 1);
        beginners(2);
        like(0, 0, 9, 9);
        like(1, 1, 9, 9);
        is(2, x.pair());
        like(2, 0, 1, 1);
        is(1, x.change(0));
        pairsAre(2, 1);
        like(1, 0, 1, 1);
        like(0, 1, 1, 1);
        is(2, x.change(0));
        pairsAre(1, 0);

        sentence("Promise 17: (2; 10; 9: they are in none)");
        elders(1, 1);
        beginners(2);
        like(0, 0, 2, 2);
        like(1, 0, 1, 1);
        for (int bad : outside(0, 1)) {
            none(2, x.change(bad));
        }
        none(10, x.change(0));
        is(1, x.pair());
        none(9, x.change(1));
        is(2, x.beginner());
        none(9, x.change(2));
        none(2, x.change(3));
        pairsAre(0, NONE, NONE);
        like(1, 1, 9, 9);
        none(9, x.change(1));

        changeThatCantBeDone();
    }

    private static void changeThatCantBeDone() {
        sentence("Promise 17: (12: there is no such row; nobody is BARRED then)");
        elders(1, 1);
        beginners(2);
        like(0, 0, 9, 9);
        like(1, 1, 9, 9);
        is(2, x.pair());
        like(1, 0, 1, 1);
        none(12, x.change(0));
        none(12, x.change(1));
        no(8, x.bar(0, 0, false));
        no(8, x.bar(0, 1, false));
        no(8, x.bar(1, 0, false));
        no(8, x.bar(1, 1, false));
        pairsAre(0, 1);
        yes(x.bar(0, 0, true));
        none(12, x.change(0));
        no(8, x.bar(0, 0, true));
        pairsAre(0, 1);

        sentence("Promise 17: a CHANGE of one who was BARRED already");
        elders(1, 1);
        beginners(1);
        like(0, 0, 9, 9);
        is(1, x.pair());
        yes(x.bar(0, 0, true));
        like(1, 0, 1, 1);
        is(1, x.change(0));
        no(8, x.bar(0, 0, true));
        pairsAre(1);

        sentence("Promise 17: one CHANGE behind the other, until none can be");
        elders(1, 1, 1);
        beginners(1);
        for (int e = 0; e < 3; e++) {
            like(e, 0, 1, 1);
        }
        is(1, x.pair());
        is(1, x.change(0));
        is(1, x.change(0));
        pairsAre(2);
        none(12, x.change(0));
        pairsAre(2);
        yes(x.bar(0, 0, false));
        is(1, x.change(0));
        pairsAre(0);
    }

    // ---- meetings, goals

    private static void meeting() {
        sentence("Promise 18: A MEETING more: its number (2; 5; 7).");
        none(2, x.meeting(0, 0));
        beginners(2);
        for (int bad : outside(0, 1)) {
            none(2, x.meeting(bad, 0));
        }
        for (int bad : outside(0, 9999)) {
            none(5, x.meeting(0, bad));
        }
        for (int m = 0; m < 100; m++) {
            is(m, x.meeting(1, m == 0 ? 9999 : 0));
        }
        none(7, x.meeting(0, 0));
        is(99, x.met(1, 0, 2));
        is(100, x.met(1, 9999, 2));
        is(0, x.met(0, 9999, 2));
    }

    private static void tell() {
        sentence("Promise 19: A MEETING is TOLD as kept, or slipped, on a day (2; 5: also ahead of the due one)");
        beginners(1);
        is(0, x.meeting(0, 10));
        is(1, x.meeting(0, 0));
        for (int bad : outside(0, 1)) {
            no(2, x.tell(bad, true, 10));
        }
        for (int bad : outside(10, 9999)) {
            no(5, x.tell(0, true, bad));
        }
        no(5, x.tell(1, true, -1));
        is(2, x.met(0, 9999, 2));
        yes(x.tell(0, true, 10));
        yes(x.tell(1, false, 0));
        is(1, x.met(0, 0, 1));
        is(1, x.met(0, 10, 0));
        yes(x.tell(0, false, 9999));
        is(2, x.met(0, 9999, 1));

        sentence("Promise 19: (7: 200 in all)");
        beginners(2);
        is(0, x.meeting(0, 10));
        is(1, x.meeting(1, 10));
        for (int t = 0; t < 200; t++) {
            yes(x.tell(t % 2, t < 198, 10 + t));
        }
        no(7, x.tell(0, true, 9999));
        no(7, x.tell(1, true, 9999));
        is(1, x.met(0, 9999, 1));
        is(1, x.met(1, 9999, 1));
        is(1, x.met(0, 207, 0));
        is(1, x.met(1, 208, 0));
    }

    private static void met() {
        sentence("Promise 20: how many KEPT (what 0), SLIPPED (1), UNKNOWN (2) (2; 5)");
        beginners(2);
        for (int m = 0; m < 6; m++) {
            is(m, x.meeting(0, 10));
            if (m > 0) {
                yes(x.tell(m, m > 2, 10));
            }
        }
        is(3, x.met(0, 10, 0));
        is(2, x.met(0, 10, 1));
        is(1, x.met(0, 10, 2));
        for (int what = 0; what < 3; what++) {
            is(0, x.met(1, 9999, what));
            is(0, x.met(0, 9, what));
        }
        for (int bad : outside(0, 2)) {
            none(5, x.met(0, 10, bad));
        }
        for (int bad : outside(0, 9999)) {
            none(5, x.met(0, bad, 0));
        }
        for (int bad : outside(0, 1)) {
            none(2, x.met(bad, 10, 0));
        }
    }

    private static void goal() {
        sentence("Promise 21: A GOAL more: its number; behind another one, or none (NONE)");
        beginners(1);
        is(0, x.goal(0, 5, NONE));
        is(1, x.goal(0, 5, 0));
        is(2, x.goal(0, 5, 0));
        is(3, x.goal(0, 5, NONE));
        for (int g = 1; g < 4; g++) {
            yes(x.confirm(g, 5));
        }
        is(0, x.goalAt(1, 5));
        is(0, x.goalAt(2, 5));
        is(1, x.goalAt(3, 5));

        sentence("Promise 21: (2: also one of another BEGINNER; 5; 7)");
        beginners(2);
        for (int bad : outside(0, 1)) {
            none(2, x.goal(bad, 5, NONE));
        }
        is(0, x.goal(0, 0, NONE));
        none(2, x.goal(1, 5, 0));
        none(2, x.goal(0, 5, 1));
        none(2, x.goal(0, 5, -2));
        for (int bad : outside(0, 9999)) {
            none(5, x.goal(0, bad, NONE));
            none(5, x.goal(0, bad, 0));
        }
        for (int g = 1; g < 40; g++) {
            is(g, x.goal(g % 2, 9999, NONE));
        }
        none(7, x.goal(0, 0, NONE));
        none(7, x.goal(1, 9999, 39));
        none(2, x.goal(0, 5, 39));
        none(2, x.goalAt(40, 0));
    }

    private static void confirm() {
        sentence("Promise 22: A GOAL is CONFIRMED on a day (2; 5; 8).");
        no(2, x.confirm(0, 0));
        beginners(1);
        is(0, x.goal(0, 9999, NONE));
        is(1, x.goal(0, 0, NONE));
        for (int bad : outside(0, 1)) {
            no(2, x.confirm(bad, 0));
        }
        for (int bad : outside(0, 9999)) {
            no(5, x.confirm(0, bad));
        }
        is(0, x.goalAt(0, 9999));
        yes(x.confirm(0, 9999));
        yes(x.confirm(1, 0));
        no(8, x.confirm(0, 9999));
        no(8, x.confirm(0, 0));
        no(8, x.confirm(1, 0));
        is(0, x.goalAt(0, 9998));
        is(1, x.goalAt(0, 9999));
        is(1, x.goalAt(1, 0));
    }

    private static void goalAt() {
        sentence("Promise 23: A GOAL as of a day: 0 OPEN, 1 REACHED, 2 MISSED (2; 5).");
        none(2, x.goalAt(0, 0));
        beginners(1);
        for (int g = 0; g < 3; g++) {
            is(g, x.goal(0, 10, NONE));
        }
        yes(x.confirm(1, 10));
        yes(x.confirm(2, 11));
        is(0, x.goalAt(0, 10));
        is(2, x.goalAt(0, 11));
        is(0, x.goalAt(1, 9));
        is(1, x.goalAt(1, 10));
        is(1, x.goalAt(1, 9999));
        is(0, x.goalAt(2, 10));
        is(2, x.goalAt(2, 11));
        for (int bad : outside(0, 2)) {
            none(2, x.goalAt(bad, 10));
        }
        for (int bad : outside(0, 9999)) {
            none(5, x.goalAt(1, bad));
        }
    }

    // ---- lasting

    private static void run() {
        sentence("Promise 24: A run more (5; 7).");
        for (int bad : outside(1, 60)) {
            no(5, x.run(bad, true));
        }
        no(9, x.lasts(60));
        for (int r = 0; r < 16; r++) {
            yes(x.run(r < 8 ? 1 : 60, true));
        }
        no(7, x.run(1, false));
        no(7, x.run(60, true));
        no(5, x.run(0, true));
        fraction(1, 2, x.lasts(1));
        fraction(0, 1, x.lasts(60));
    }

    private static void clear() {
        sentence("Promise 25: All runs are gone.");
        yes(x.clear());
        for (int r = 0; r < 16; r++) {
            yes(x.run(2, r % 2 == 0));
        }
        fraction(1, 2, x.lasts(2));
        yes(x.clear());
        fractionIs(1, 2);
        no(9, x.lasts(2));
        yes(x.clear());
        for (int r = 0; r < 16; r++) {
            yes(x.run(3, r > 0));
        }
        no(7, x.run(3, true));
        fraction(1, 1, x.lasts(2));
        fraction(1, 16, x.lasts(3));
    }

    private static void lasts() {
        sentence("Promise 26: The FRACTION is the SHARE that lasts beyond m months (5; 9: there are no runs)");
        no(9, x.lasts(0));
        no(9, x.lasts(60));
        no(5, x.lasts(-1));
        yes(x.run(1, true));
        yes(x.run(2, true));
        yes(x.run(2, false));
        yes(x.run(60, true));
        yes(x.run(60, true));
        fraction(1, 1, x.lasts(0));
        fraction(4, 5, x.lasts(1));
        fraction(3, 5, x.lasts(2));
        fraction(3, 5, x.lasts(59));
        for (int bad : outside(0, 60)) {
            no(5, x.lasts(bad));
        }
        fractionIs(3, 5);
        fraction(0, 1, x.lasts(60));

        sentence("Promise 26: of runs that are all still going");
        for (int r = 0; r < 16; r++) {
            yes(x.run(1, false));
        }
        fraction(1, 1, x.lasts(60));
    }

    private static void upperAndLower() {
        sentence("Promise 27: The upper number of the FRACTION told latest with STATUS 0");
        fill(0, 0, 0, 7, 9);
        yes(x.run(1, true));
        yes(x.run(2, true));
        yes(x.run(2, false));
        fraction(2, 3, x.lasts(1));
        fraction(5, 2, x.gain(0, 3, 2));
        fraction(2, 3, x.chance(0, 3, 2));
        no(5, x.gain(0, 3, 0));
        no(5, x.lasts(61));
        no(4, x.chance(0, 4, 1));
        is(0, x.draw(3, 0, 0));
        is(7, x.read(0, 1));
        yes(x.clear());
        no(9, x.lasts(1));
        fractionIs(2, 3);

        sentence("Promise 27: without a common divisor with the lower one");
        for (int r = 0; r < 16; r++) {
            yes(x.run(r < 4 ? 1 : 2, true));
        }
        fraction(3, 4, x.lasts(1));
        fill(0, 0, 0, 0, 50, 50);
        fraction(50, 1, x.gain(0, 4, 12));
        fraction(-100, 3, x.gain(0, 4, 1 + 2 + 4));
        fraction(1, 2, x.chance(0, 4, 8));

        sentence("Promise 28: Its lower number, above 0.");
        fractionIs(0, 1);
        fill(0, 0, 0, 100, 99);
        fraction(-199, 2, x.gain(0, 3, 1));
        fraction(-101, 2, x.gain(0, 3, 1 + 4));
        yes(x.write(0, 1, 0));
        fraction(0, 1, x.gain(0, 2, 1));
        yes(x.run(1, true));
        fraction(0, 1, x.lasts(1));
    }

    // ---- trials

    private static void gain() {
        sentence("Promise 29: GAIN of the first n numbers of a TRAY");
        fill(0, 1, 0, 100, 50, 101, -1);
        fraction(100, 1, x.gain(0, 2, 2));
        fraction(75, 1, x.gain(0, 3, 2));
        no(5, x.gain(0, 4, 2));
        fractionIs(75, 1);
        yes(x.write(0, 3, 100));
        fraction(50, 1, x.gain(0, 4, 2));
        no(5, x.gain(0, 5, 2));
        yes(x.write(0, 4, 0));
        fraction(125, 2, x.gain(0, 5, 2));

        sentence("Promise 29: (1; 3; 5: n; 4; 5: the set, an OUTCOME)");
        fill(0, 2, 50, 51, 101);
        for (int bad : outside(0, 3)) {
            no(1, x.gain(bad, 2, 1));
        }
        no(3, x.gain(1, 2, 1));
        for (int bad : outside(2, 16)) {
            no(5, x.gain(0, bad, 1));
        }
        no(4, x.gain(0, 4, 1));
        for (int bad : outside(1, 2)) {
            no(5, x.gain(0, 2, bad));
        }
        no(5, x.gain(0, 3, 1));
        fractionIs(0, 1);
        fraction(-1, 1, x.gain(0, 2, 1));
    }

    private static void chance() {
        sentence("Promise 30: The FRACTION is CHANCE of the first n numbers");
        fill(0, 1, 3, 1, 2, 101, -1);
        fraction(1, 2, x.chance(0, 2, 1));
        fraction(1, 1, x.chance(0, 2, 2));
        fraction(1, 3, x.chance(0, 3, 1));
        fraction(1, 1, x.chance(0, 3, 2));
        fraction(2, 3, x.chance(0, 3, 4));
        fraction(1, 3, x.chance(0, 3, 5));
        no(5, x.chance(0, 4, 1));
        yes(x.write(0, 3, 100));
        fraction(1, 2, x.chance(0, 4, 1));
        no(5, x.chance(0, 5, 1));
        fractionIs(1, 2);

        sentence("Promise 30: (as gain())");
        fill(0, 2, 50, 51, 101);
        for (int bad : outside(0, 3)) {
            no(1, x.chance(bad, 2, 1));
        }
        no(3, x.chance(1, 2, 1));
        for (int bad : outside(2, 16)) {
            no(5, x.chance(0, bad, 1));
        }
        no(4, x.chance(0, 4, 1));
        for (int bad : outside(1, 2)) {
            no(5, x.chance(0, 2, bad));
        }
        no(5, x.chance(0, 3, 1));
        fractionIs(0, 1);
        fraction(1, 1, x.chance(0, 2, 1));
    }

    private static void draw() {
        sentence("Promise 31: A DRAW: the set of the HELPED (5: n from 1 to 16)");
        is(0, x.draw(1, 0, 5));
        is(1, x.draw(1, 1, 5));
        is(65535, x.draw(16, 16, 5));
        for (int bad : outside(1, 16)) {
            none(5, x.draw(bad, 0, 5));
            none(5, x.draw(bad, 1, 5));
        }

        sentence("Promise 31: (5: k from 0 to n)");
        for (int n = 1; n <= 16; n++) {
            is(0, x.draw(n, 0, 0));
            is((1 << n) - 1, x.draw(n, n, 0));
            none(5, x.draw(n, -1, 0));
            none(5, x.draw(n, n + 1, 0));
        }
        none(5, x.draw(5, LOW, 0));
        none(5, x.draw(5, HIGH, 0));

        sentence("Promise 31: (5: the SEED)");
        none(5, x.draw(4, 2, -1));
        none(5, x.draw(4, 2, LOW));
        is(3, x.draw(4, 2, 0));
        is(5, x.draw(4, 2, HIGH));

        sentence("Promise 31: as many HELPED as told, and the same again");
        for (int seed = 0; seed < 17; seed++) {
            long set = x.draw(16, seed, 123_456_789 * (1 + seed) & HIGH);
            due("as many", Long.bitCount(set), seed);
            is(set, x.draw(16, seed, 123_456_789 * (1 + seed) & HIGH));
        }
    }
}
