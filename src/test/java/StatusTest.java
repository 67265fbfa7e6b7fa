/** The sentences of part 4: each STATUS at each call that may give it, which of several is given, and what a refused call leaves. */
public final class StatusTest extends Checks {
    public static void main(String[] args) {
        eachStatus();
        trayOrders();
        peopleOrders();
        dayOrders();
        otherOrders();
        changesNothing();
        noStatusOfTheirOwn();
        end();
    }

    // ---- houses to begin with

    /** Tray 0 holds 10, 20, 30 (8 bits), tray 1 40, 50 (16 bits); two pairs, one beginner in none; a share of 1 by 2. */
    private static void rich() {
        anew();
        fill(0, 0, 10, 20, 30);
        fill(1, 1, 40, 50);
        elders(1, 1);
        beginners(3);
        like(0, 0, 60, 60);
        like(1, 1, 60, 60);
        is(2, x.pair());
        is(0, x.meeting(0, 10));
        yes(x.tell(0, true, 12));
        is(0, x.goal(0, 10, NONE));
        is(1, x.goal(1, 10, NONE));
        yes(x.confirm(0, 8));
        yes(x.run(3, true));
        yes(x.run(4, false));
        fraction(1, 2, x.lasts(3));
    }

    private static void richIsAsItWas() {
        fractionIs(1, 2);
        holds(0, 10, 20, 30);
        holds(1, 40, 50);
        none(3, x.read(2, 0));
        pairsAre(0, 1, NONE);
        is(1, x.has(0));
        is(1, x.has(1));
        is(0, x.blocks());
        is(1, x.met(0, 12, 0));
        is(1, x.met(0, 11, 2));
        is(0, x.met(1, 9999, 2));
        is(1, x.goalAt(0, 8));
        is(0, x.goalAt(1, 10));
        none(2, x.goalAt(2, 10));
        fraction(1, 2, x.lasts(60));
        no(8, x.bar(0, 0, false));
        no(8, x.bar(1, 1, false));
        is(2, x.pair());
        pairsAre(0, 1, NONE);
    }

    /** All that may be too many is there: each is full. */
    private static void full() {
        anew();
        elders(0, 1, 2, 3, 4, 0, 1, 2, 3, 4, 0, 1);
        beginners(16);
        for (int r = 0; r < 16; r++) {
            x.run(1 + r, true);
        }
        for (int g = 0; g < 40; g++) {
            x.goal(0, 10, NONE);
        }
    }

    // ---- each number

    private static void eachStatus() {
        noSuchTray();
        noSuchSort();
        noSuchElder();
        noSuchBeginner();
        noSuchMeeting();
        noSuchGoal();
        trayIsMissing();
        noSuchPlace();
        numberThatCantBe();
        belowZero();
        oneTooMany();
        oneTooManyTold();
        soAlready();
        noneSuch();
        noneGiven();
        unlikeSorts();
        cantBeDone();
        zeroElse();
    }

    private static void noSuchTray() {
        sentence("1 no such TRAY");
        rich();
        for (int bad : outside(0, 3)) {
            no(1, x.tray(bad, 0, 1));
            no(1, x.write(bad, 0, 1));
            none(1, x.read(bad, 0));
            no(1, x.pour(bad, 0, 0, 0, 1));
            no(1, x.pour(0, 0, bad, 0, 1));
            no(1, x.gain(bad, 2, 1));
            no(1, x.chance(bad, 2, 1));
        }
        richIsAsItWas();
    }

    private static void noSuchSort() {
        sentence("1 no such TRAY (or sort)");
        rich();
        for (int bad : outside(0, 3)) {
            no(1, x.tray(0, bad, 1));
            no(1, x.tray(3, bad, 1));
        }
        none(3, x.read(3, 0));
        richIsAsItWas();
    }

    private static void noSuchElder() {
        sentence("2 no such ELDER");
        rich();
        for (int bad : outside(0, 1)) {
            no(2, x.places(bad, 2));
            no(2, x.like(bad, 0, true, 1));
            no(2, x.like(bad, 0, false, 1));
            no(2, x.bar(bad, 0, true));
            no(2, x.bar(bad, 0, false));
            none(2, x.has(bad));
            none(2, x.block(bad, 0));
        }
        richIsAsItWas();
    }

    private static void noSuchBeginner() {
        sentence("2 no such .. BEGINNER");
        rich();
        for (int bad : outside(0, 2)) {
            no(2, x.like(0, bad, true, 1));
            no(2, x.like(0, bad, false, 1));
            no(2, x.bar(0, bad, true));
            no(2, x.bar(0, bad, false));
            none(2, x.elderOf(bad));
            none(2, x.block(0, bad));
            none(2, x.change(bad));
            none(2, x.meeting(bad, 1));
            none(2, x.met(bad, 1, 0));
            none(2, x.goal(bad, 1, NONE));
        }
        richIsAsItWas();
    }

    private static void noSuchMeeting() {
        sentence("2 no such .. MEETING");
        rich();
        for (int bad : outside(0, 0)) {
            no(2, x.tell(bad, false, 20));
        }
        richIsAsItWas();
    }

    private static void noSuchGoal() {
        sentence("2 no such .. GOAL");
        rich();
        for (int bad : outside(0, 1)) {
            no(2, x.confirm(bad, 5));
            none(2, x.goalAt(bad, 5));
            if (bad != NONE) {
                none(2, x.goal(0, 5, bad));
            }
        }
        none(2, x.goal(0, 5, -2));
        none(2, x.goal(0, 5, 1));
        richIsAsItWas();
    }

    private static void trayIsMissing() {
        sentence("3 the TRAY is MISSING");
        rich();
        for (int t = 2; t < 4; t++) {
            no(3, x.write(t, 0, 1));
            none(3, x.read(t, 0));
            no(3, x.pour(t, 0, 0, 0, 1));
            no(3, x.pour(0, 0, t, 0, 1));
            no(3, x.pour(t, 0, t, 0, 0));
            no(3, x.gain(t, 2, 1));
            no(3, x.chance(t, 2, 1));
        }
        richIsAsItWas();
    }

    private static void noSuchPlace() {
        sentence("4 a place that the TRAY has not");
        rich();
        for (int bad : outside(0, 2)) {
            no(4, x.write(0, bad, 1));
            none(4, x.read(0, bad));
            no(4, x.pour(0, bad, 0, 0, 1));
            no(4, x.pour(0, 0, 0, bad, 1));
        }
        no(4, x.pour(0, 0, 0, 0, 4));
        no(4, x.pour(0, 2, 0, 0, 2));
        no(4, x.pour(0, 0, 0, 2, 2));
        no(4, x.gain(0, 4, 1));
        no(4, x.chance(0, 4, 1));
        no(4, x.gain(0, 16, 1));
        no(4, x.chance(0, 16, 1));
        richIsAsItWas();
    }

    private static void numberThatCantBe() {
        sentence("5 a number that can't be");
        rich();
        no(5, x.tray(0, 0, 41));
        none(5, x.elder(5));
        no(5, x.places(0, -1));
        no(5, x.like(0, 0, true, 101));
        none(5, x.meeting(0, 10000));
        no(5, x.tell(0, false, 10000));
        no(5, x.tell(0, false, 9));
        none(5, x.met(0, 10000, 0));
        none(5, x.met(0, 1, 3));
        none(5, x.goal(0, -1, NONE));
        no(5, x.confirm(1, -1));
        none(5, x.goalAt(0, 10000));
        no(5, x.run(61, true));
        no(5, x.lasts(61));
        no(5, x.gain(0, 1, 1));
        no(5, x.gain(0, 3, 7));
        no(5, x.chance(0, 17, 1));
        no(5, x.chance(0, 3, 0));
        none(5, x.draw(0, 0, 0));
        none(5, x.draw(3, 4, 0));
        none(5, x.draw(3, 1, -1));
        richIsAsItWas();
    }

    private static void belowZero() {
        sentence("6 below 0 (a TRAY's length)");
        rich();
        for (int bad : new int[] {-1, LOW}) {
            no(6, x.tray(0, 1, bad));
            no(6, x.tray(2, 1, bad));
            no(6, x.pour(0, 0, 0, 1, bad));
        }
        richIsAsItWas();
    }

    private static void oneTooMany() {
        sentence("7 one too many");
        full();
        none(7, x.elder(1));
        none(7, x.beginner());
        no(7, x.run(1, false));
        none(7, x.goal(0, 10, NONE));
        none(7, x.goal(0, 10, 0));
        fraction(0, 1, x.lasts(16));
        fraction(15, 16, x.lasts(1));
        is(0, x.pair());
    }

    private static void oneTooManyTold() {
        sentence("7 one too many: MEETINGS, and what is told of them");
        beginners(1);
        for (int m = 0; m < 100; m++) {
            is(m, x.meeting(0, 10));
        }
        none(7, x.meeting(0, 10));
        is(100, x.met(0, 10, 2));
        anew();
        beginners(1);
        is(0, x.meeting(0, 10));
        for (int t = 0; t < 200; t++) {
            yes(x.tell(0, true, 10));
        }
        no(7, x.tell(0, false, 10));
        is(1, x.met(0, 10, 0));
    }

    private static void soAlready() {
        sentence("8 it is so already");
        rich();
        no(8, x.bar(0, 0, false));
        yes(x.bar(0, 2, true));
        no(8, x.bar(0, 2, true));
        yes(x.bar(0, 2, false));
        no(8, x.bar(0, 2, false));
        no(8, x.confirm(0, 8));
        no(8, x.confirm(0, 0));
        richIsAsItWas();
    }

    private static void noneSuch() {
        sentence("9 there is none such");
        rich();
        none(9, x.elderOf(2));
        none(9, x.change(2));
        richIsAsItWas();
        yes(x.clear());
        no(9, x.lasts(0));
        no(9, x.lasts(60));
        fractionIs(1, 2);
    }

    private static void noneGiven() {
        sentence("10 none is GIVEN");
        elders(1);
        beginners(1);
        like(0, 0, 1, 1);
        none(10, x.elderOf(0));
        none(10, x.has(0));
        none(10, x.blocks());
        none(10, x.block(0, 0));
        none(10, x.change(0));
        no(8, x.bar(0, 0, false));
        is(1, x.pair());
        is(0, x.elderOf(0));
        is(1, x.has(0));
        is(0, x.blocks());
        is(0, x.block(0, 0));
        none(12, x.change(0));
    }

    private static void unlikeSorts() {
        sentence("11 TRAYS of unlike sorts");
        for (int from = 0; from < 4; from++) {
            fill(0, from, 7);
            for (int to = 0; to < 4; to++) {
                fill(1, to, 5);
                if (from == to) {
                    yes(x.pour(0, 0, 1, 0, 1));
                    is(7, x.read(1, 0));
                } else {
                    no(11, x.pour(0, 0, 1, 0, 1));
                    no(11, x.pour(0, 0, 1, 0, 0));
                    is(5, x.read(1, 0));
                }
            }
        }
    }

    private static void cantBeDone() {
        sentence("12 it can't be done");
        rich();
        none(12, x.change(0));
        none(12, x.change(1));
        richIsAsItWas();
    }

    /** A refused call stands ahead of each, so that its STATUS would show. */
    private static void zeroElse() {
        sentence("0 else");
        no(9, x.lasts(0));
        yes(x.tray(0, 0, 2));
        none(3, x.read(1, 0));
        yes(x.write(0, 0, 1));
        none(3, x.read(1, 0));
        is(1, x.read(0, 0));
        none(3, x.read(1, 0));
        yes(x.pour(0, 0, 0, 1, 1));
        none(5, x.elder(5));
        is(0, x.elder(1));
        none(5, x.elder(5));
        is(0, x.beginner());
        none(5, x.elder(5));
        yes(x.places(0, 1));
        none(5, x.elder(5));
        yes(x.like(0, 0, true, 1));
        none(5, x.elder(5));
        yes(x.bar(0, 0, true));
        none(5, x.elder(5));
        yes(x.bar(0, 0, false));
        yes(x.like(0, 0, false, 1));
        none(10, x.blocks());
        is(1, x.pair());
        zeroElseOfTheGiven();
        zeroElseOfDays();
        zeroElseOfFractions();
    }

    private static void zeroElseOfTheGiven() {
        none(2, x.elderOf(1));
        is(0, x.elderOf(0));
        none(2, x.elderOf(1));
        is(1, x.has(0));
        none(2, x.elderOf(1));
        is(0, x.blocks());
        none(2, x.elderOf(1));
        is(0, x.block(0, 0));
        is(1, x.elder(1));
        like(1, 0, 1, 1);
        none(2, x.elderOf(1));
        is(1, x.change(0));
    }

    private static void zeroElseOfDays() {
        none(2, x.elderOf(1));
        is(0, x.meeting(0, 1));
        none(2, x.elderOf(1));
        yes(x.tell(0, true, 1));
        none(2, x.elderOf(1));
        is(1, x.met(0, 1, 0));
        none(2, x.elderOf(1));
        is(0, x.goal(0, 1, NONE));
        none(2, x.elderOf(1));
        yes(x.confirm(0, 1));
        none(2, x.elderOf(1));
        is(1, x.goalAt(0, 1));
    }

    private static void zeroElseOfFractions() {
        none(2, x.elderOf(1));
        yes(x.run(1, true));
        none(2, x.elderOf(1));
        yes(x.lasts(1));
        none(2, x.elderOf(1));
        yes(x.clear());
        none(2, x.elderOf(1));
        yes(x.gain(0, 2, 1));
        none(2, x.elderOf(1));
        yes(x.chance(0, 2, 1));
        none(2, x.elderOf(1));
        is(1, x.draw(1, 1, 0));
    }

    // ---- which of several

    private static void trayOrders() {
        sentence("STATUS of a call is the first of these that holds: tray (1; 5; 6)");
        no(1, x.tray(4, 0, 41));
        no(1, x.tray(4, 0, -1));
        no(1, x.tray(0, 4, 41));
        no(1, x.tray(0, -1, -1));
        no(5, x.tray(0, 0, 41));
        no(6, x.tray(0, 0, -1));

        sentence("STATUS of a call is the first of these that holds: write, read (1; 3; 4)");
        yes(x.tray(1, 0, 1));
        no(1, x.write(4, -1, 0));
        none(1, x.read(-1, 1));
        no(3, x.write(0, -1, 0));
        none(3, x.read(0, 40));
        no(4, x.write(1, -1, 0));
        none(4, x.read(1, 1));

        sentence("1, 3 (either), 11, 6, 4, asked in this order");
        yes(x.tray(1, 0, 1));
        yes(x.tray(2, 1, 1));
        no(1, x.pour(4, -1, 0, -1, -1));
        no(1, x.pour(0, -1, 4, -1, -1));
        no(3, x.pour(0, -1, 1, -1, -1));
        no(3, x.pour(1, -1, 0, -1, -1));
        no(11, x.pour(1, -1, 2, -1, -1));
        no(11, x.pour(2, 5, 1, 5, 5));
        no(6, x.pour(1, -1, 1, -1, -1));
        no(6, x.pour(1, 5, 1, 5, LOW));
        no(4, x.pour(1, -1, 1, 0, 1));

        trialOrders();
    }

    private static void trialOrders() {
        sentence("(1; 3; 5: n; 4; 5: the set, an OUTCOME; in this order)");
        fill(1, 1, 50, 101);
        yes(x.tray(2, 0, 0));
        for (int n : new int[] {1, 17}) {
            no(1, x.gain(4, n, 0));
            no(1, x.chance(-1, n, 0));
            no(3, x.gain(0, n, 0));
            no(3, x.chance(0, n, 0));
            no(5, x.gain(2, n, 0));
            no(5, x.chance(2, n, 0));
        }
        no(4, x.gain(1, 3, 0));
        no(4, x.chance(1, 3, 7));
        no(4, x.gain(1, 16, 1));
        no(4, x.chance(2, 2, 1));
        no(5, x.gain(1, 2, 0));
        no(5, x.chance(1, 2, 3));
        no(5, x.gain(1, 2, 1));
        no(5, x.chance(1, 2, 1));
    }

    private static void peopleOrders() {
        sentence("STATUS of a call is the first of these that holds: elder (5; 7)");
        elders(0, 0, 0, 0, 0, 0, 0, 0, 0, 0, 0, 0);
        none(5, x.elder(5));
        none(5, x.elder(-1));
        none(7, x.elder(4));

        sentence("STATUS of a call is the first of these that holds: places, like (2; 5), bar (2; 8)");
        elders(1);
        beginners(1);
        no(2, x.places(1, 5));
        no(2, x.like(1, 0, true, 101));
        no(2, x.like(0, 1, false, -1));
        no(2, x.bar(1, 0, false));
        no(2, x.bar(0, 1, false));

        sentence("STATUS of a call is the first of these that holds: elderOf (2; 10; 9), has, block (2; 10)");
        elders(1);
        beginners(1);
        none(2, x.elderOf(1));
        none(2, x.has(1));
        none(2, x.block(1, 0));
        none(2, x.block(0, 1));
        none(10, x.elderOf(0));
        is(0, x.pair());
        none(2, x.elderOf(1));
        none(9, x.elderOf(0));

        sentence("STATUS of a call is the first of these that holds: change (2; 10; 9; 12)");
        elders(1);
        beginners(2);
        like(0, 0, 1, 1);
        none(2, x.change(2));
        none(10, x.change(0));
        none(10, x.change(1));
        is(1, x.pair());
        none(2, x.change(2));
        none(9, x.change(1));
        none(12, x.change(0));
    }

    private static void dayOrders() {
        sentence("STATUS of a call is the first of these that holds: meeting (2; 5; 7)");
        beginners(1);
        for (int m = 0; m < 100; m++) {
            x.meeting(0, 0);
        }
        none(2, x.meeting(1, 10000));
        none(5, x.meeting(0, 10000));
        none(7, x.meeting(0, 9999));

        sentence("STATUS of a call is the first of these that holds: tell (2; 5; 7)");
        beginners(1);
        x.meeting(0, 10);
        for (int t = 0; t < 200; t++) {
            x.tell(0, true, 10);
        }
        no(2, x.tell(1, true, 10000));
        no(5, x.tell(0, true, 10000));
        no(5, x.tell(0, true, 9));
        no(7, x.tell(0, true, 9999));

        sentence("STATUS of a call is the first of these that holds: met (2; 5)");
        beginners(1);
        none(2, x.met(1, 10000, 3));
        none(2, x.met(-1, 0, 3));
        none(5, x.met(0, 10000, 0));
        none(5, x.met(0, 0, 3));

        goalOrders();
    }

    private static void goalOrders() {
        sentence("STATUS of a call is the first of these that holds: goal (2; 5; 7)");
        beginners(2);
        for (int g = 0; g < 40; g++) {
            x.goal(0, 0, NONE);
        }
        none(2, x.goal(2, 10000, NONE));
        none(2, x.goal(0, 10000, 40));
        none(2, x.goal(1, 10000, 0));
        none(5, x.goal(0, 10000, 0));
        none(5, x.goal(1, -1, NONE));
        none(7, x.goal(0, 9999, 39));

        sentence("STATUS of a call is the first of these that holds: confirm (2; 5; 8), goalAt (2; 5)");
        beginners(1);
        x.goal(0, 5, NONE);
        yes(x.confirm(0, 5));
        no(2, x.confirm(1, 10000));
        no(5, x.confirm(0, 10000));
        no(5, x.confirm(0, -1));
        no(8, x.confirm(0, 9999));
        none(2, x.goalAt(1, 10000));
    }

    private static void otherOrders() {
        sentence("STATUS of a call is the first of these that holds: run (5; 7)");
        for (int r = 0; r < 16; r++) {
            x.run(1, true);
        }
        no(5, x.run(0, true));
        no(5, x.run(61, true));
        no(7, x.run(60, true));

        sentence("STATUS of a call is the first of these that holds: lasts (5; 9)");
        no(5, x.lasts(-1));
        no(5, x.lasts(61));
        no(9, x.lasts(60));
        no(9, x.lasts(0));
    }

    // ---- what a refused call leaves

    private static void changesNothing() {
        sentence("A call with another STATUS than 0 gives NONE, or false, and changes nothing but STATUS.");
        rich();
        no(1, x.tray(0, 4, 1));
        no(6, x.tray(1, 0, -1));
        no(4, x.write(0, 3, 99));
        no(4, x.pour(0, 0, 0, 1, 3));
        no(11, x.pour(0, 0, 1, 0, 1));
        no(5, x.places(0, 5));
        no(5, x.like(0, 0, true, -1));
        no(8, x.bar(0, 0, false));
        none(12, x.change(0));
        none(9, x.change(2));
        none(5, x.meeting(2, -1));
        no(5, x.tell(0, false, 9));
        none(2, x.goal(1, 10, 0));
        no(8, x.confirm(0, 9));
        no(5, x.confirm(1, 10000));
        no(5, x.run(0, true));
        no(5, x.lasts(61));
        no(4, x.gain(0, 4, 1));
        no(5, x.chance(0, 3, 7));
        none(5, x.draw(2, 3, 0));
        richIsAsItWas();
        is(2, x.elder(1));
        is(3, x.beginner());
        is(1, x.meeting(0, 10));
        is(2, x.goal(0, 10, NONE));

        likingsStay();
        placesStay();

        sentence("changes nothing: a refused TRAY stays MISSING");
        no(5, x.tray(0, 0, 41));
        no(6, x.tray(0, 0, -1));
        no(1, x.tray(0, 4, 1));
        none(3, x.read(0, 0));

        sentence("changes nothing: a refused CHANGE that looked at many");
        elders(1, 1, 1);
        beginners(3);
        for (int b = 0; b < 3; b++) {
            like(b, b, 9, 9);
        }
        is(3, x.pair());
        like(1, 0, 1, 1);
        like(2, 1, 1, 1);
        none(12, x.change(0));
        pairsAre(0, 1, 2);
        for (int b = 0; b < 3; b++) {
            no(8, x.bar(b, b, false));
        }
        like(0, 2, 1, 1);
        is(3, x.change(1));
        pairsAre(1, 2, 0);
    }

    /** Beginner 0 and elder 0 are each liked a little less than others, and so they stay. */
    private static void likingsStay() {
        sentence("changes nothing: a LIKING stays, where another one was refused");
        elders(1, 1);
        beginners(2);
        like(0, 0, 50, 50);
        like(1, 0, 50, 51);
        like(0, 1, 51, 50);
        for (boolean byElder : new boolean[] {true, false}) {
            for (int bad : outside(0, 100)) {
                no(5, x.like(0, 0, byElder, bad));
            }
        }
        is(2, x.pair());
        pairsAre(1, 0);
        yes(x.bar(1, 0, true));
        is(1, x.pair());
        pairsAre(NONE, 0);
        yes(x.bar(0, 1, true));
        is(1, x.pair());
        pairsAre(0, NONE);
    }

    private static void placesStay() {
        sentence("changes nothing: PLACES stay, where one ELDER too many, or other PLACES, were refused");
        elders(0, 1, 1, 1, 1, 1, 1, 1, 1, 1, 1, 3);
        beginners(5);
        for (int b = 0; b < 5; b++) {
            like(0, b, 1, 1);
            like(11, b, 1, 1);
        }
        none(7, x.elder(0));
        none(7, x.elder(4));
        for (int bad : outside(0, 4)) {
            none(5, x.elder(bad));
            no(5, x.places(0, bad));
            no(5, x.places(11, bad));
        }
        is(3, x.pair());
        is(0, x.has(0));
        is(3, x.has(11));
    }

    private static void noStatusOfTheirOwn() {
        sentence("status(), upper(), lower() have none.");
        none(5, x.elder(5));
        x.upper();
        due("status() behind upper()", x.status(), 5);
        x.lower();
        due("status() behind lower()", x.status(), 5);
        due("status() behind status()", x.status(), 5);
        is(0, x.beginner());
        x.upper();
        x.lower();
        due("status() of a call that was done", x.status(), 0);
    }
}
