/** The sentences of "Terms" (parts 1 to 3): each least and greatest number, each limit, each order, and what is at first. */
public final class TermsTest extends Checks {
    public static void main(String[] args) {
        traysTerms();
        people();
        likings();
        pairings();
        changes();
        changeOrder();
        meetings();
        goals();
        lasting();
        trials();
        draws();
        lifetime();
        end();
    }

    // ---- 1: TRAYS

    private static void traysTerms() {
        traysAreFour();
        traysAreMissing();
        sortsAreFour();
        eightBits();
        sixteenBits();
        thirtyTwoBits();
        sixtyFourBits();
    }

    private static void traysAreFour() {
        sentence("TRAYS, 0 to 3");
        for (int t = 0; t < 4; t++) {
            yes(x.tray(t, 0, 1));
            yes(x.write(t, 0, t + 1));
        }
        for (int t = 0; t < 4; t++) {
            is(t + 1, x.read(t, 0));
        }
        for (int bad : outside(0, 3)) {
            no(1, x.tray(bad, 0, 1));
        }
    }

    private static void traysAreMissing() {
        sentence("TRAYS are MISSING at first");
        for (int t = 0; t < 4; t++) {
            none(3, x.read(t, 0));
        }
        yes(x.tray(2, 0, 0));
        none(4, x.read(2, 0));
        none(3, x.read(1, 0));
        none(3, x.read(3, 0));
    }

    private static void sortsAreFour() {
        sentence("numbers of 8 bits (sort 0), 16 (1), 32 (2) or 64 (3)");
        for (int sort = 0; sort < 4; sort++) {
            yes(x.tray(0, sort, 1));
        }
        for (int bad : outside(0, 3)) {
            no(1, x.tray(0, bad, 1));
        }
    }

    /** Of each two numbers the first is written, the second is what is left of it. */
    private static void cutsTo(int sort, long... numbers) {
        yes(x.tray(sort, sort, 1));
        for (int i = 0; i + 1 < numbers.length; i += 2) {
            yes(x.write(sort, 0, numbers[i]));
            is(numbers[i + 1], x.read(sort, 0));
        }
    }

    private static void eightBits() {
        sentence("8 bits, with sign; what is written is cut to these");
        cutsTo(0, 127, 127, 128, -128, -128, -128, -129, 127, 255, -1, 256, 0, 257, 1, -1, -1, -256, 0,
                Long.MAX_VALUE, -1, Long.MIN_VALUE, 0, 0x7fff_ffff_ffff_ff80L, -128);
    }

    private static void sixteenBits() {
        sentence("16 bits, with sign; what is written is cut to these");
        cutsTo(1, 128, 128, 32767, 32767, 32768, -32768, -32768, -32768, -32769, 32767, 65535, -1, 65536, 0,
                65537, 1, Long.MAX_VALUE, -1, Long.MIN_VALUE, 0, 0x7fff_ffff_ffff_8000L, -32768);
    }

    private static void thirtyTwoBits() {
        sentence("32 bits, with sign; what is written is cut to these");
        cutsTo(2, 32768, 32768, HIGH, HIGH, HIGH + 1L, LOW, LOW, LOW, LOW - 1L, HIGH, 4294967295L, -1, 4294967296L, 0,
                4294967297L, 1, Long.MAX_VALUE, -1, Long.MIN_VALUE, 0, 0x7fff_ffff_8000_0000L, LOW);
    }

    private static void sixtyFourBits() {
        sentence("64 bits, with sign; what is written is cut to these");
        cutsTo(3, HIGH + 1L, HIGH + 1L, LOW - 1L, LOW - 1L, Long.MAX_VALUE, Long.MAX_VALUE, Long.MIN_VALUE, Long.MIN_VALUE, -1, -1);
    }

    // ---- 1: who there is

    private static void people() {
        eldersAtMost12();
        beginnersAtMost16();
        numberedAsTheyCome();
        placesZeroToFour();
        fullHouse();
    }

    private static void eldersAtMost12() {
        sentence("ELDERS, at most 12");
        for (int e = 0; e < 12; e++) {
            is(e, x.elder(1));
        }
        none(7, x.elder(1));
        none(7, x.elder(0));
        is(0, x.pair());
        is(0, x.has(11));
        none(2, x.has(12));
    }

    private static void beginnersAtMost16() {
        sentence("BEGINNERS, at most 16");
        for (int b = 0; b < 16; b++) {
            is(b, x.beginner());
        }
        none(7, x.beginner());
        none(7, x.beginner());
        is(0, x.meeting(15, 0));
        none(2, x.meeting(16, 0));
    }

    private static void numberedAsTheyCome() {
        sentence("numbered as they come");
        is(0, x.beginner());
        is(0, x.elder(4));
        none(5, x.elder(5));
        is(1, x.elder(0));
        is(1, x.beginner());
        is(2, x.beginner());
        is(2, x.elder(1));
    }

    private static void placesZeroToFour() {
        sentence("An ELDER has PLACES 0 to 4.");
        elders(0);
        beginners(6);
        for (int b = 0; b < 6; b++) {
            like(0, b, 50, 50);
        }
        is(0, x.pair());
        for (int places = 4; places >= 0; places--) {
            yes(x.places(0, places));
            is(places, x.pair());
            is(places, x.has(0));
        }
        for (int bad : outside(0, 4)) {
            no(5, x.places(0, bad));
            none(5, x.elder(bad));
        }
        is(0, x.pair());
    }

    /** All beginners, all elders, and the last of both. */
    private static void fullHouse() {
        sentence("ELDERS, at most 12, and BEGINNERS, at most 16: all of them in pairs");
        elders(0, 0, 0, 0, 0, 0, 0, 0, 4, 4, 4, 4);
        beginners(16);
        for (int b = 0; b < 16; b++) {
            like(8 + b / 4, b, 1, 1);
        }
        is(16, x.pair());
        is(4, x.has(11));
        is(11, x.elderOf(15));
        is(8, x.elderOf(0));
        is(0, x.blocks());
    }

    // ---- 1: LIKING, BARRED, CAN, PREFERS

    private static void likings() {
        likingZeroToHundred();
        likingZero();
        likingAtFirst();
        barredAtFirst();
        can();
        prefersGreater();
        prefersLesserNumber();
        prefersToNone();
    }

    private static void likingZeroToHundred() {
        sentence("A LIKING of one for one of the others: 0 to 100");
        elders(1, 1);
        beginners(2);
        for (boolean byElder : new boolean[] {true, false}) {
            yes(x.like(0, 0, byElder, 0));
            yes(x.like(0, 0, byElder, 100));
            for (int bad : outside(0, 100)) {
                no(5, x.like(0, 0, byElder, bad));
            }
        }
        like(1, 0, 99, 99);
        like(0, 1, 99, 99);
        is(1, x.pair());
        pairsAre(0, NONE);
    }

    private static void likingZero() {
        sentence("0: would rather have none");
        elders(1);
        beginners(1);
        like(0, 0, 1, 1);
        is(1, x.pair());
        yes(x.like(0, 0, true, 0));
        is(0, x.pair());
        like(0, 0, 1, 0);
        is(0, x.pair());
        like(0, 0, 1, 1);
        is(1, x.pair());
    }

    private static void likingAtFirst() {
        sentence("(0 at first)");
        elders(1);
        beginners(1);
        is(0, x.pair());
        yes(x.like(0, 0, true, 100));
        is(0, x.pair());
        anew();
        elders(1);
        beginners(1);
        yes(x.like(0, 0, false, 100));
        is(0, x.pair());
    }

    private static void barredAtFirst() {
        sentence("An ELDER and a BEGINNER may be BARRED: nothing is told at first");
        elders(1, 1);
        beginners(2);
        for (int e = 0; e < 2; e++) {
            for (int b = 0; b < 2; b++) {
                no(8, x.bar(e, b, false));
            }
        }
        yes(x.bar(1, 0, true));
        no(8, x.bar(0, 1, false));
        no(8, x.bar(0, 0, false));
        no(8, x.bar(1, 1, false));
        no(8, x.bar(1, 0, true));
    }

    private static void can() {
        sentence("They CAN be a pair, if neither's LIKING for the other is 0, and they are not BARRED.");
        elders(1);
        beginners(1);
        for (int kind = 0; kind < 8; kind++) {
            like(0, 0, kind & 1, kind >> 1 & 1);
            if (kind >= 4) {
                yes(x.bar(0, 0, true));
            }
            is(kind == 3 ? 1 : 0, x.pair());
            if (kind >= 4) {
                yes(x.bar(0, 0, false));
            }
        }
    }

    private static void prefersGreater() {
        sentence("One PREFERS of two the one with the greater LIKING");
        elders(1, 1);
        beginners(1);
        like(0, 0, 100, 99);
        like(1, 0, 1, 100);
        is(1, x.pair());
        pairsAre(1);
        anew();
        elders(1);
        beginners(2);
        like(0, 0, 99, 100);
        like(0, 1, 100, 1);
        is(1, x.pair());
        pairsAre(NONE, 0);
    }

    private static void prefersLesserNumber() {
        sentence("of like ones the lesser number");
        elders(1, 1);
        beginners(1);
        like(1, 0, 100, 50);
        like(0, 0, 1, 50);
        is(1, x.pair());
        pairsAre(0);
        anew();
        elders(1);
        beginners(3);
        like(0, 2, 50, 100);
        like(0, 1, 50, 1);
        like(0, 0, 49, 100);
        is(1, x.pair());
        pairsAre(NONE, 0, NONE);
    }

    private static void prefersToNone() {
        sentence("anyone whom one CAN be a pair with to none");
        elders(1);
        beginners(1);
        is(0, x.pair());
        is(0, x.block(0, 0));
        like(0, 0, 1, 1);
        is(1, x.block(0, 0));
        is(1, x.pair());
        pairsAre(0);
    }

    // ---- 1: PAIRING, BLOCK, STABLE, BEST, GIVEN

    private static void pairings() {
        oneElderAtMost();
        noMoreThanPlaces();
        blockCan();
        blockAreNone();
        blockBeginnerPrefers();
        blockPlaceLeft();
        blockPrefersToOne();
        stable();
        best();
        given();
    }

    private static void oneElderAtMost() {
        sentence("A PAIRING: pairs that CAN be, each BEGINNER in one at most");
        elders(4, 4, 4);
        beginners(1);
        for (int e = 0; e < 3; e++) {
            like(e, 0, 50, 50 + e);
        }
        is(1, x.pair());
        is(0, x.has(0));
        is(0, x.has(1));
        is(1, x.has(2));
    }

    private static void noMoreThanPlaces() {
        sentence("no ELDER in more than there are PLACES");
        elders(2, 1);
        beginners(4);
        for (int b = 0; b < 4; b++) {
            like(0, b, 10, 20);
            like(1, b, 10, 10);
        }
        is(3, x.pair());
        pairsAre(0, 0, 1, NONE);
        is(2, x.has(0));
        is(1, x.has(1));
    }

    /** An elder and a beginner who block, as nothing stands against it. */
    private static void twoWhoBlock() {
        anew();
        elders(1);
        beginners(1);
        is(0, x.pair());
        like(0, 0, 1, 1);
        is(1, x.block(0, 0));
        is(1, x.blocks());
    }

    private static void blockCan() {
        sentence("An ELDER and a BEGINNER BLOCK it, if they CAN be a pair");
        twoWhoBlock();
        yes(x.like(0, 0, true, 0));
        is(0, x.block(0, 0));
        like(0, 0, 1, 0);
        is(0, x.block(0, 0));
        like(0, 0, 1, 1);
        yes(x.bar(0, 0, true));
        is(0, x.block(0, 0));
        is(0, x.blocks());
        yes(x.bar(0, 0, false));
        is(1, x.blocks());
    }

    private static void blockAreNone() {
        sentence("BLOCK it, if they .. are none");
        twoWhoBlock();
        is(1, x.pair());
        is(0, x.block(0, 0));
        yes(x.places(0, 4));
        is(0, x.block(0, 0));
        is(0, x.blocks());
    }

    private static void blockBeginnerPrefers() {
        sentence("the BEGINNER PREFERS the ELDER to what they have");
        elders(1, 1, 1);
        beginners(1);
        like(1, 0, 50, 50);
        is(1, x.pair());
        like(0, 0, 100, 49);
        like(2, 0, 100, 50);
        is(0, x.blocks());
        yes(x.like(0, 0, false, 50));
        is(1, x.block(0, 0));
        is(0, x.block(2, 0));
        yes(x.like(2, 0, false, 51));
        is(1, x.block(2, 0));
        is(2, x.blocks());
    }

    private static void blockPlaceLeft() {
        sentence("and the ELDER has a PLACE left");
        twoWhoBlock();
        yes(x.places(0, 0));
        is(0, x.block(0, 0));
        is(0, x.blocks());
        yes(x.places(0, 1));
        is(1, x.pair());
        beginners(1);
        like(0, 1, 1, 1);
        is(0, x.block(0, 1));
        yes(x.places(0, 2));
        is(1, x.block(0, 1));
    }

    private static void blockPrefersToOne() {
        sentence("or PREFERS the BEGINNER to one of theirs");
        elders(2);
        beginners(4);
        like(0, 1, 30, 1);
        like(0, 2, 10, 1);
        is(2, x.pair());
        like(0, 0, 9, 1);
        like(0, 3, 10, 1);
        is(0, x.blocks());
        yes(x.like(0, 0, true, 10));
        is(1, x.block(0, 0));
        is(0, x.block(0, 3));
        yes(x.like(0, 3, true, 11));
        is(1, x.block(0, 3));
        is(2, x.blocks());
    }

    private static void stable() {
        sentence("STABLE is one that none BLOCK.");
        elders(1, 2);
        beginners(4);
        for (int b = 0; b < 4; b++) {
            like(0, b, 20 + b, 60);
            like(1, b, 40 - b, 30 + b);
        }
        is(3, x.pair());
        pairsAre(1, 1, NONE, 0);
        is(0, x.blocks());
        for (int e = 0; e < 2; e++) {
            for (int b = 0; b < 4; b++) {
                is(0, x.block(e, b));
            }
        }
    }

    private static void best() {
        sentence("BEST: the STABLE one in which each BEGINNER has the ELDER whom they PREFER to any that they have in another STABLE one.");
        elders(1, 1);
        beginners(2);
        like(0, 0, 10, 20);
        like(1, 0, 20, 10);
        like(0, 1, 20, 10);
        like(1, 1, 10, 20);
        is(2, x.pair());
        pairsAre(0, 1);
        anew();
        // The third beginner sends the first one away from elder 0, and so on: all have their last choice.
        elders(1, 1, 1);
        beginners(3);
        like(0, 0, 10, 30);
        like(1, 0, 30, 20);
        like(1, 1, 10, 30);
        like(2, 1, 30, 20);
        like(0, 2, 20, 30);
        like(2, 2, 10, 20);
        is(3, x.pair());
        pairsAre(1, 2, 0);
        is(0, x.blocks());
    }

    private static void given() {
        sentence("GIVEN is a PAIRING once it was made; what is told later does not touch it by itself.");
        elders(1);
        beginners(1);
        like(0, 0, 1, 1);
        none(10, x.elderOf(0));
        is(1, x.pair());
        yes(x.bar(0, 0, true));
        pairsAre(0);
        like(0, 0, 0, 0);
        pairsAre(0);
        yes(x.places(0, 0));
        pairsAre(0);
        is(1, x.has(0));
        is(1, x.elder(1));
        like(1, 0, 100, 100);
        pairsAre(0);
        is(1, x.block(1, 0));
        is(1, x.pair());
        pairsAre(1);
    }

    // ---- 1: CHANGE

    private static void changes() {
        changeOfOneInAPair();
        barredFromThenOn();
        pairsThatCanBe();
        otherPairsStay();
        inNoneStayInNone();
        anotherElder();
        placeOfTheNext();
        freePlace();
        placeOfTheFirst();
        placeOfTheFirstIsGone();
        eachOnce();
        eachOnceBesideARing();
        thatOneFirst();
        longestRow();
        rowInAFullHouse();
    }

    private static void changeOfOneInAPair() {
        sentence("A CHANGE of a BEGINNER who is in a pair, GIVEN");
        elders(1, 1);
        beginners(2);
        like(0, 0, 2, 2);
        like(1, 0, 1, 1);
        none(10, x.change(0));
        is(1, x.pair());
        none(9, x.change(1));
        is(1, x.change(0));
        pairsAre(1, NONE);
    }

    private static void barredFromThenOn() {
        sentence("they are BARRED from that ELDER (from then on)");
        elders(1, 1);
        beginners(1);
        like(0, 0, 2, 2);
        like(1, 0, 1, 1);
        is(1, x.pair());
        no(8, x.bar(0, 0, false));
        is(1, x.change(0));
        no(8, x.bar(0, 0, true));
        no(8, x.bar(1, 0, false));
        is(0, x.block(0, 0));
        none(12, x.change(0));
        is(1, x.pair());
        pairsAre(1);
        yes(x.bar(0, 0, false));
        is(1, x.block(0, 0));
        is(1, x.pair());
        pairsAre(0);
    }

    private static void pairsThatCanBe() {
        sentence("all BEGINNERS who were in pairs are in pairs that CAN be, again");
        elders(1, 1);
        beginners(1);
        like(0, 0, 9, 9);
        is(1, x.pair());
        none(12, x.change(0));
        like(1, 0, 100, 0);
        none(12, x.change(0));
        like(1, 0, 0, 100);
        none(12, x.change(0));
        like(1, 0, 100, 100);
        yes(x.bar(1, 0, true));
        none(12, x.change(0));
        yes(x.bar(1, 0, false));
        is(1, x.change(0));
        pairsAre(1);
        anew();
        elders(1, 1, 1);
        beginners(2);
        like(0, 0, 9, 9);
        like(1, 1, 9, 9);
        is(2, x.pair());
        like(1, 0, 1, 1);
        like(2, 1, 1, 0);
        none(12, x.change(0));
        pairsAre(0, 1);
        yes(x.like(2, 1, false, 1));
        is(2, x.change(0));
        pairsAre(1, 2);
    }

    /** A reading: who is not in the row is not moved, even from a pair that CAN'T be any more. */
    private static void otherPairsStay() {
        sentence("what is told later does not touch it by itself: not by a CHANGE of another one");
        elders(1, 1, 1);
        beginners(2);
        like(0, 0, 9, 9);
        like(1, 1, 9, 9);
        is(2, x.pair());
        yes(x.bar(1, 1, true));
        like(2, 0, 1, 1);
        is(1, x.change(0));
        pairsAre(2, 1);
    }

    private static void inNoneStayInNone() {
        sentence("those in none stay in none");
        elders(1, 1);
        beginners(3);
        like(0, 0, 9, 9);
        is(1, x.pair());
        like(1, 0, 1, 1);
        like(0, 1, 100, 100);
        like(1, 1, 100, 100);
        like(1, 2, 100, 100);
        is(1, x.change(0));
        pairsAre(1, NONE, NONE);
        is(0, x.has(0));
    }

    private static void anotherElder() {
        sentence("each taking a PLACE of an ELDER (another one than they have)");
        elders(4);
        beginners(2);
        like(0, 0, 9, 9);
        like(0, 1, 9, 9);
        is(2, x.pair());
        none(12, x.change(0));
        none(12, x.change(1));
        pairsAre(0, 0);
    }

    private static void placeOfTheNext() {
        sentence("a PLACE of an ELDER .. that the next one leaves");
        elders(1, 1, 1);
        beginners(3);
        for (int b = 0; b < 3; b++) {
            like(b, b, 9, 9);
        }
        is(3, x.pair());
        like(1, 0, 1, 1);
        like(2, 1, 1, 1);
        none(12, x.change(0));
        is(3, x.elder(1));
        like(3, 2, 1, 1);
        is(3, x.change(0));
        pairsAre(1, 2, 3);
        is(0, x.has(0));
    }

    private static void freePlace() {
        sentence("the last one a PLACE that is free");
        elders(1, 1);
        beginners(2);
        like(0, 0, 9, 9);
        like(1, 1, 9, 9);
        is(2, x.pair());
        like(1, 0, 100, 100);
        none(12, x.change(0));
        yes(x.places(1, 0));
        none(12, x.change(0));
        yes(x.places(1, 2));
        is(1, x.change(0));
        pairsAre(1, 1);
        is(2, x.has(1));
    }

    private static void placeOfTheFirst() {
        sentence("(that which the first one leaves may be it)");
        elders(1, 1);
        beginners(2);
        like(0, 0, 9, 9);
        like(1, 1, 9, 9);
        is(2, x.pair());
        like(1, 0, 1, 1);
        like(0, 1, 1, 1);
        is(2, x.change(0));
        pairsAre(1, 0);
        no(8, x.bar(0, 0, true));
        no(8, x.bar(1, 1, false));
    }

    /** A place that was taken back by places() is none that the first one could leave. */
    private static void placeOfTheFirstIsGone() {
        sentence("a PLACE that is free: no ELDER in more than there are PLACES");
        elders(2, 1);
        beginners(3);
        like(0, 0, 9, 9);
        like(0, 1, 9, 9);
        like(1, 2, 9, 9);
        is(3, x.pair());
        like(1, 0, 1, 1);
        like(0, 2, 1, 1);
        yes(x.places(0, 1));
        none(12, x.change(0));
        yes(x.places(0, 2));
        is(2, x.change(0));
        pairsAre(1, 0, 0);
    }

    private static void eachOnce() {
        sentence("each once");
        elders(1, 1, 1);
        beginners(3);
        for (int b = 0; b < 3; b++) {
            like(b, b, 9, 9);
        }
        is(3, x.pair());
        like(1, 0, 1, 1);
        like(2, 1, 1, 1);
        like(1, 2, 1, 1);
        none(12, x.change(0));
        pairsAre(0, 1, 2);
        like(0, 2, 1, 1);
        is(3, x.change(0));
        pairsAre(1, 2, 0);
    }

    /** Beginner 2 could take the place of 1, who is in the row already. */
    private static void eachOnceBesideARing() {
        sentence("each once: beside a ring");
        elders(1, 1, 1, 1, 1);
        beginners(4);
        for (int b = 0; b < 4; b++) {
            like(b, b, 9, 9);
        }
        is(4, x.pair());
        for (int b = 0; b < 4; b++) {
            like(b + 1, b, 1, 1);
        }
        like(1, 2, 1, 1);
        is(4, x.change(0));
        pairsAre(1, 2, 3, 4);
        is(0, x.has(0));
    }

    /** Beginner 0 could move, but would leave no place that helps. */
    private static void thatOneFirst() {
        sentence("It is a row of BEGINNERS, that one first");
        elders(1, 1, 1);
        beginners(2);
        like(0, 0, 9, 9);
        like(1, 1, 9, 9);
        is(2, x.pair());
        like(2, 0, 9, 9);
        none(12, x.change(1));
        pairsAre(0, 1);
        is(1, x.change(0));
        pairsAre(2, 1);
        like(2, 1, 1, 1);
        none(12, x.change(1));
        pairsAre(2, 1);
    }

    private static void longestRow() {
        sentence("a row of BEGINNERS: through all ELDERS that there may be");
        elders(1, 1, 1, 1, 1, 1, 1, 1, 1, 1, 1, 1);
        beginners(12);
        for (int b = 0; b < 12; b++) {
            like(b, b, 9, 9);
        }
        is(12, x.pair());
        for (int b = 0; b < 12; b++) {
            like((b + 1) % 12, b, 1, 1);
        }
        is(12, x.change(0));
        pairsAre(1, 2, 3, 4, 5, 6, 7, 8, 9, 10, 11, 0);
    }

    /** The last beginner could take the place of any other: all are looked at. */
    private static void rowInAFullHouse() {
        sentence("a row of BEGINNERS: where there are as many as there may be");
        elders(2, 2, 2, 2, 1, 1, 1, 1, 1, 1, 1, 1);
        beginners(16);
        for (int b = 0; b < 16; b++) {
            like(b < 8 ? b / 2 : b - 4, b, 9, 9);
        }
        is(16, x.pair());
        for (int e = 0; e < 11; e++) {
            like(e, 15, 1, 1);
        }
        none(12, x.change(15));
        is(11, x.elderOf(15));
        like(11, 14, 1, 1);
        is(2, x.change(15));
        is(10, x.elderOf(15));
        is(11, x.elderOf(14));
        is(0, x.elderOf(0));
        is(9, x.elderOf(13));
    }

    private static void changeOrder() {
        shortestAhead();
        lesserElder();
        lesserElderAheadOfLesserBeginner();
        lesserBeginner();
        onlyTheGreaterBeginner();
        firstStepAheadOfLast();
        beginnerAheadOfLaterElder();
        thirdStep();
        rowsThatMeet();
        likingIsNotAsked();
    }

    private static void shortestAhead() {
        sentence("FEWEST: the shortest row");
        elders(1, 1, 1, 1);
        beginners(2);
        like(0, 0, 9, 9);
        like(1, 1, 9, 9);
        is(2, x.pair());
        like(1, 0, 100, 100);
        like(2, 1, 100, 100);
        like(3, 0, 1, 1);
        is(1, x.change(0));
        pairsAre(3, 1);
    }

    private static void lesserElder() {
        sentence("of several the first: step by step, by the ELDER to whom one moves, the lesser ahead");
        elders(1, 1, 1, 1);
        beginners(1);
        like(0, 0, 9, 9);
        is(1, x.pair());
        like(3, 0, 100, 100);
        like(2, 0, 1, 1);
        is(1, x.change(0));
        pairsAre(2);
        like(1, 0, 1, 1);
        is(1, x.change(0));
        pairsAre(1);
        is(1, x.change(0));
        pairsAre(3);
    }

    private static void lesserElderAheadOfLesserBeginner() {
        sentence("by the ELDER to whom one moves, the lesser ahead, then by the BEGINNER who leaves");
        elders(1, 1, 1, 1);
        beginners(3);
        like(0, 0, 9, 9);
        like(1, 2, 9, 9);
        like(2, 1, 9, 9);
        is(3, x.pair());
        like(1, 0, 1, 1);
        like(2, 0, 1, 1);
        like(3, 1, 1, 1);
        like(3, 2, 1, 1);
        is(2, x.change(0));
        pairsAre(1, 2, 3);
    }

    private static void lesserBeginner() {
        sentence("then by the BEGINNER who leaves");
        elders(1, 3, 2);
        beginners(4);
        like(0, 0, 9, 9);
        for (int b = 1; b < 4; b++) {
            like(1, b, 9, 9);
        }
        is(4, x.pair());
        like(1, 0, 1, 1);
        like(2, 3, 100, 100);
        like(2, 2, 1, 1);
        is(2, x.change(0));
        pairsAre(1, 1, 2, 1);
    }

    private static void onlyTheGreaterBeginner() {
        sentence("by the BEGINNER who leaves: only one who has where to go");
        elders(1, 2, 1);
        beginners(3);
        like(0, 2, 9, 9);
        like(1, 0, 9, 9);
        like(1, 1, 9, 9);
        is(3, x.pair());
        like(1, 2, 1, 1);
        like(2, 1, 1, 1);
        is(2, x.change(2));
        pairsAre(1, 2, 1);
    }

    private static void firstStepAheadOfLast() {
        sentence("step by step: the first step ahead of the last");
        elders(1, 1, 1, 1, 1);
        beginners(3);
        for (int b = 0; b < 3; b++) {
            like(b, b, 9, 9);
        }
        is(3, x.pair());
        like(1, 0, 1, 1);
        like(2, 0, 1, 1);
        like(4, 1, 1, 1);
        like(3, 2, 1, 1);
        is(2, x.change(0));
        pairsAre(1, 4, 2);
    }

    private static void beginnerAheadOfLaterElder() {
        sentence("step by step: the BEGINNER who leaves ahead of where they move");
        elders(1, 2, 1, 1);
        beginners(3);
        like(0, 0, 9, 9);
        like(1, 1, 9, 9);
        like(1, 2, 9, 9);
        is(3, x.pair());
        like(1, 0, 1, 1);
        like(3, 1, 1, 1);
        like(2, 2, 1, 1);
        is(2, x.change(0));
        pairsAre(1, 3, 1);
    }

    /** Rows of three; the lesser elder of a later step counts less than who left in the first one. */
    private static void thirdStep() {
        sentence("step by step: in the third step too");
        elders(1, 2, 1, 1, 1);
        beginners(5);
        like(0, 0, 9, 9);
        like(1, 1, 9, 9);
        like(1, 2, 9, 9);
        like(2, 3, 9, 9);
        like(3, 4, 9, 9);
        is(5, x.pair());
        like(1, 0, 1, 1);
        like(3, 1, 1, 1);
        like(2, 2, 1, 1);
        like(4, 3, 1, 1);
        like(4, 4, 1, 1);
        is(3, x.change(0));
        pairsAre(1, 3, 1, 2, 4);
        anew();
        elders(1, 1, 2, 1, 1, 1);
        beginners(5);
        like(0, 0, 9, 9);
        like(1, 1, 9, 9);
        like(2, 4, 9, 9);
        like(2, 3, 9, 9);
        like(3, 2, 9, 9);
        is(5, x.pair());
        like(1, 0, 1, 1);
        like(3, 1, 1, 1);
        like(2, 1, 1, 1);
        like(4, 2, 1, 1);
        like(4, 4, 1, 1);
        like(5, 3, 1, 1);
        is(3, x.change(0));
        pairsAre(1, 2, 3, 5, 2);
    }

    /** Both 1 and 2 could take the place of 3; the row through 1 is the first. */
    private static void rowsThatMeet() {
        sentence("step by step: of rows that meet again");
        elders(1, 2, 1, 1);
        beginners(4);
        like(0, 0, 9, 9);
        like(1, 1, 9, 9);
        like(1, 2, 9, 9);
        like(2, 3, 9, 9);
        is(4, x.pair());
        like(1, 0, 1, 1);
        like(2, 1, 1, 1);
        like(2, 2, 1, 1);
        like(3, 3, 1, 1);
        is(3, x.change(0));
        pairsAre(1, 2, 1, 3);
    }

    private static void likingIsNotAsked() {
        sentence("the lesser ahead: whoever is liked more");
        elders(1, 1, 1);
        beginners(1);
        like(0, 0, 9, 9);
        is(1, x.pair());
        like(1, 0, 1, 1);
        like(2, 0, 100, 100);
        is(1, x.change(0));
        pairsAre(1);
        is(1, x.block(2, 0));
    }

    // ---- 2: MEETINGS

    private static void meetings() {
        meetingsAtMost100();
        daysOfMeetings();
        toldNotAheadOfDue();
        notToldAtAll();
        toldLatestCounts();
        laterCallOfOneDay();
        dueOnItOrAhead();
        nothingToldByThen();
    }

    private static void meetingsAtMost100() {
        sentence("MEETINGS, at most 100, of a BEGINNER");
        beginners(2);
        for (int m = 0; m < 100; m++) {
            is(m, x.meeting(m % 2, 7));
        }
        none(7, x.meeting(0, 7));
        none(7, x.meeting(1, 7));
        is(50, x.met(0, 7, 2));
        is(50, x.met(1, 7, 2));
        yes(x.tell(99, true, 7));
        no(2, x.tell(100, true, 7));
        is(1, x.met(1, 7, 0));
    }

    private static void daysOfMeetings() {
        sentence("due on a day (0 to 9,999)");
        beginners(1);
        is(0, x.meeting(0, 0));
        is(1, x.meeting(0, 9999));
        for (int bad : outside(0, 9999)) {
            none(5, x.meeting(0, bad));
            no(5, x.tell(0, true, bad));
            none(5, x.met(0, bad, 2));
        }
        is(1, x.met(0, 0, 2));
        is(1, x.met(0, 9998, 2));
        is(2, x.met(0, 9999, 2));
        yes(x.tell(0, true, 0));
        yes(x.tell(1, true, 9999));
        is(1, x.met(0, 0, 0));
        is(2, x.met(0, 9999, 0));
    }

    private static void toldNotAheadOfDue() {
        sentence("TOLD as kept or slipped on a day (not ahead of the due one)");
        beginners(1);
        is(0, x.meeting(0, 10));
        is(1, x.meeting(0, 20));
        no(5, x.tell(0, true, 9));
        no(5, x.tell(1, true, 19));
        is(2, x.met(0, 9999, 2));
        yes(x.tell(0, false, 10));
        yes(x.tell(1, true, 20));
        is(1, x.met(0, 10, 1));
        is(1, x.met(0, 20, 0));
        is(0, x.met(0, 20, 2));
    }

    private static void notToldAtAll() {
        sentence("or not at all");
        beginners(1);
        is(0, x.met(0, 9999, 2));
        is(0, x.meeting(0, 10));
        is(1, x.met(0, 9999, 2));
        is(0, x.met(0, 9999, 0));
        is(0, x.met(0, 9999, 1));
    }

    private static void toldLatestCounts() {
        sentence("told again: the one TOLD latest counts");
        beginners(1);
        is(0, x.meeting(0, 10));
        yes(x.tell(0, true, 30));
        yes(x.tell(0, false, 20));
        is(1, x.met(0, 30, 0));
        is(0, x.met(0, 30, 1));
        is(1, x.met(0, 29, 1));
        is(1, x.met(0, 20, 1));
        is(1, x.met(0, 19, 2));
        yes(x.tell(0, false, 31));
        is(1, x.met(0, 31, 1));
        is(1, x.met(0, 30, 0));
    }

    private static void laterCallOfOneDay() {
        sentence("(of one day the later call)");
        beginners(1);
        is(0, x.meeting(0, 10));
        yes(x.tell(0, true, 10));
        yes(x.tell(0, false, 10));
        is(1, x.met(0, 10, 1));
        yes(x.tell(0, true, 10));
        is(1, x.met(0, 10, 0));
        is(0, x.met(0, 10, 1));
    }

    private static void dueOnItOrAhead() {
        sentence("As known on a day a MEETING due on it or ahead");
        beginners(2);
        is(0, x.meeting(0, 10));
        is(1, x.meeting(1, 10));
        is(0, x.met(0, 9, 2));
        is(1, x.met(0, 10, 2));
        is(1, x.met(0, 11, 2));
        yes(x.tell(1, true, 10));
        is(0, x.met(1, 9, 0));
        is(1, x.met(1, 10, 0));
        is(0, x.met(0, 10, 0));
    }

    private static void nothingToldByThen() {
        sentence("is KEPT, SLIPPED, or, as nothing was TOLD by then, UNKNOWN");
        beginners(1);
        for (int m = 0; m < 3; m++) {
            is(m, x.meeting(0, 10));
        }
        yes(x.tell(0, true, 12));
        yes(x.tell(1, false, 13));
        is(3, x.met(0, 11, 2));
        is(2, x.met(0, 12, 2));
        is(1, x.met(0, 12, 0));
        is(0, x.met(0, 12, 1));
        is(1, x.met(0, 13, 2));
        is(1, x.met(0, 13, 0));
        is(1, x.met(0, 13, 1));
    }

    // ---- 2: GOALS

    private static void goals() {
        goalsAtMost40();
        goalsDueOnADay();
        behindOneOfTheirs();
        confirmedOnce();
        reachedByThen();
        notBehindDueDay();
        reachedWhenConfirmed();
        missed();
        open();
        longestChain();
    }

    private static void goalsAtMost40() {
        sentence("GOALS, at most 40, numbered as they come");
        beginners(2);
        for (int g = 0; g < 40; g++) {
            is(g, x.goal(g % 2, 7, NONE));
        }
        none(7, x.goal(0, 7, NONE));
        none(7, x.goal(1, 7, 39));
        is(0, x.goalAt(39, 7));
        none(2, x.goalAt(40, 7));
        yes(x.confirm(39, 7));
        is(1, x.goalAt(39, 7));
        is(0, x.goalAt(38, 7));
    }

    private static void goalsDueOnADay() {
        sentence("GOALS .. due on a day");
        beginners(1);
        is(0, x.goal(0, 0, NONE));
        is(1, x.goal(0, 9999, NONE));
        for (int bad : outside(0, 9999)) {
            none(5, x.goal(0, bad, NONE));
            no(5, x.confirm(0, bad));
            none(5, x.goalAt(0, bad));
        }
        is(0, x.goalAt(0, 0));
        is(2, x.goalAt(0, 1));
        is(0, x.goalAt(1, 9999));
        yes(x.confirm(0, 0));
        yes(x.confirm(1, 9999));
        is(1, x.goalAt(0, 0));
        is(0, x.goalAt(1, 9998));
        is(1, x.goalAt(1, 9999));
    }

    private static void behindOneOfTheirs() {
        sentence("perhaps behind another GOAL of theirs (one there is)");
        beginners(2);
        none(2, x.goal(0, 5, 0));
        is(0, x.goal(0, 5, NONE));
        none(2, x.goal(0, 5, 1));
        none(2, x.goal(0, 5, -2));
        none(2, x.goal(0, 5, LOW));
        none(2, x.goal(0, 5, HIGH));
        none(2, x.goal(1, 5, 0));
        is(1, x.goal(1, 5, NONE));
        none(2, x.goal(0, 5, 1));
        is(2, x.goal(0, 5, 0));
        is(3, x.goal(1, 5, 1));
    }

    private static void confirmedOnce() {
        sentence("CONFIRMED is a GOAL on a day (once).");
        beginners(1);
        is(0, x.goal(0, 5, NONE));
        is(1, x.goal(0, 5, NONE));
        yes(x.confirm(0, 6));
        no(8, x.confirm(0, 4));
        is(2, x.goalAt(0, 6));
        yes(x.confirm(1, 0));
        no(8, x.confirm(1, 0));
        is(1, x.goalAt(1, 0));
    }

    private static void reachedByThen() {
        sentence("REACHED is it as of a day, if it was CONFIRMED by then");
        beginners(1);
        is(0, x.goal(0, 9, NONE));
        yes(x.confirm(0, 5));
        is(0, x.goalAt(0, 4));
        is(1, x.goalAt(0, 5));
        is(1, x.goalAt(0, 6));
        is(1, x.goalAt(0, 9999));
    }

    private static void notBehindDueDay() {
        sentence("not behind its due day");
        beginners(1);
        is(0, x.goal(0, 9, NONE));
        is(1, x.goal(0, 9, NONE));
        yes(x.confirm(0, 9));
        yes(x.confirm(1, 10));
        is(1, x.goalAt(0, 9));
        is(1, x.goalAt(0, 10));
        is(0, x.goalAt(1, 9));
        is(2, x.goalAt(1, 10));
    }

    private static void reachedWhenConfirmed() {
        sentence("and that behind which it comes was REACHED as of the day on which this one was CONFIRMED");
        beginners(1);
        is(0, x.goal(0, 20, NONE));
        is(1, x.goal(0, 20, 0));
        is(2, x.goal(0, 20, 0));
        is(3, x.goal(0, 20, 0));
        yes(x.confirm(0, 10));
        yes(x.confirm(1, 9));
        yes(x.confirm(2, 10));
        yes(x.confirm(3, 11));
        is(0, x.goalAt(1, 20));
        is(2, x.goalAt(1, 21));
        is(0, x.goalAt(2, 9));
        is(1, x.goalAt(2, 10));
        is(0, x.goalAt(3, 10));
        is(1, x.goalAt(3, 11));
        anew();
        beginners(1);
        is(0, x.goal(0, 20, NONE));
        is(1, x.goal(0, 20, 0));
        yes(x.confirm(1, 5));
        is(0, x.goalAt(1, 20));
        is(2, x.goalAt(1, 21));
        yes(x.confirm(0, 5));
        is(1, x.goalAt(1, 5));
    }

    private static void missed() {
        sentence("MISSED, if it isn't, and the day is behind its due day");
        beginners(1);
        is(0, x.goal(0, 9, NONE));
        is(0, x.goalAt(0, 9));
        is(2, x.goalAt(0, 10));
        is(2, x.goalAt(0, 9999));
        yes(x.confirm(0, 8));
        is(1, x.goalAt(0, 10));
    }

    private static void open() {
        sentence("else OPEN");
        beginners(1);
        is(0, x.goal(0, 9, NONE));
        is(0, x.goalAt(0, 0));
        is(0, x.goalAt(0, 9));
        is(1, x.goal(0, 9, 0));
        yes(x.confirm(1, 3));
        is(0, x.goalAt(1, 3));
        is(0, x.goalAt(1, 9));
        is(2, x.goalAt(1, 10));
    }

    private static void longestChain() {
        sentence("behind another GOAL: all 40 one behind the other");
        beginners(1);
        for (int g = 0; g < 40; g++) {
            is(g, x.goal(0, 9999, g - 1));
        }
        for (int g = 39; g >= 1; g--) {
            yes(x.confirm(g, 100));
        }
        is(0, x.goalAt(39, 9999));
        yes(x.confirm(0, 100));
        is(1, x.goalAt(39, 100));
        is(0, x.goalAt(39, 99));
    }

    // ---- 2: LASTING

    private static void lasting() {
        runsAtMost16();
        monthsOneToSixty();
        endedOrGoing();
        monthsOfShare();
        upToM();
        endedByAtRisk();
        multiplied();
    }

    private static void runsAtMost16() {
        sentence("told as runs (at most 16)");
        for (int r = 0; r < 16; r++) {
            yes(x.run(1 + r, true));
        }
        no(7, x.run(1, true));
        no(7, x.run(60, false));
        fraction(15, 16, x.lasts(1));
        fraction(1, 16, x.lasts(15));
        fraction(0, 1, x.lasts(16));
    }

    private static void monthsOneToSixty() {
        sentence("so many months (1 to 60)");
        for (int bad : outside(1, 60)) {
            no(5, x.run(bad, true));
            no(5, x.run(bad, false));
        }
        no(9, x.lasts(60));
        yes(x.run(1, true));
        yes(x.run(60, true));
        fraction(1, 2, x.lasts(1));
        fraction(1, 2, x.lasts(59));
        fraction(0, 1, x.lasts(60));
    }

    private static void endedOrGoing() {
        sentence("ended or still going");
        yes(x.run(5, false));
        fraction(1, 1, x.lasts(60));
        yes(x.run(5, true));
        fraction(1, 2, x.lasts(60));
        yes(x.run(4, false));
        fraction(1, 2, x.lasts(60));
        yes(x.run(6, false));
        fraction(2, 3, x.lasts(60));
    }

    private static void monthsOfShare() {
        sentence("The SHARE that lasts beyond m months (0 to 60)");
        yes(x.run(60, true));
        yes(x.run(1, true));
        yes(x.run(60, false));
        fraction(1, 1, x.lasts(0));
        fraction(1, 3, x.lasts(60));
        for (int bad : outside(0, 60)) {
            no(5, x.lasts(bad));
        }
        fractionIs(1, 3);
    }

    private static void upToM() {
        sentence("for each number of months up to m with which one ended, in order");
        yes(x.run(10, true));
        yes(x.run(20, true));
        yes(x.run(30, false));
        fraction(1, 1, x.lasts(9));
        fraction(2, 3, x.lasts(10));
        fraction(2, 3, x.lasts(19));
        fraction(1, 3, x.lasts(20));
        fraction(1, 3, x.lasts(30));
    }

    private static void endedByAtRisk() {
        sentence("1 less ENDED by AT RISK (ended then; all with as many months or more)");
        yes(x.run(10, true));
        yes(x.run(10, true));
        yes(x.run(10, false));
        yes(x.run(9, false));
        yes(x.run(11, true));
        yes(x.run(12, false));
        yes(x.run(60, false));
        fraction(2, 3, x.lasts(10));
        fraction(4, 9, x.lasts(11));
    }

    private static void multiplied() {
        sentence("these multiplied: a FRACTION");
        for (int r = 0; r < 16; r++) {
            yes(x.run(1 + r, r % 2 == 0));
        }
        fraction(195, 224, x.lasts(3));
        fraction(6435, 32768, x.lasts(60));
        yes(x.clear());
        for (int r = 0; r < 16; r++) {
            yes(x.run(60, true));
        }
        fraction(1, 1, x.lasts(59));
        fraction(0, 1, x.lasts(60));
    }

    // ---- 3: TRIALS

    private static void trials() {
        trialOfTwoToSixteen();
        outcomesZeroToHundred();
        bitsOfTheSet();
        oneAtLeastNotAll();
        gainIsDifferenceOfMeans();
        allSetsOfAsMany();
        notLess();
        outcomesAsTheyAre();
    }

    private static void zeros(int tray, int many) {
        yes(x.tray(tray, 0, many));
    }

    private static void trialOfTwoToSixteen() {
        sentence("A TRIAL of n (2 to 16)");
        zeros(0, 40);
        yes(x.write(0, 1, 100));
        yes(x.write(0, 15, 60));
        yes(x.write(0, 16, 99));
        fraction(100, 1, x.gain(0, 2, 2));
        fraction(1, 2, x.chance(0, 2, 2));
        fraction(160, 3, x.gain(0, 16, 32768));
        fraction(1, 8, x.chance(0, 16, 32768));
        for (int bad : new int[] {1, 0, -1, 17, LOW, HIGH}) {
            no(5, x.gain(0, bad, 1));
            no(5, x.chance(0, bad, 1));
        }
        fractionIs(1, 8);
    }

    private static void outcomesZeroToHundred() {
        sentence("with OUTCOMES (0 to 100) in a TRAY");
        fill(0, 3, 0, 100);
        fraction(-100, 1, x.gain(0, 2, 1));
        fraction(1, 1, x.chance(0, 2, 1));
        for (long bad : new long[] {-1, 101, LOW, HIGH, Long.MIN_VALUE, Long.MAX_VALUE, (1L << 32) + 50}) {
            for (int place = 0; place < 2; place++) {
                fill(0, 3, 50, 50);
                yes(x.write(0, place, bad));
                no(5, x.gain(0, 2, 1));
                no(5, x.chance(0, 2, 2));
            }
        }
        fractionIs(1, 1);
    }

    private static void bitsOfTheSet() {
        sentence("a set (1 for the first, 2 for the second ..)");
        zeros(0, 16);
        for (int i = 0; i < 16; i++) {
            yes(x.write(0, i, 15));
            fraction(15, 1, x.gain(0, 16, 1 << i));
            yes(x.write(0, i, 0));
        }
        fill(1, 0, 10, 20, 60);
        fraction(-30, 1, x.gain(1, 3, 1));
        fraction(-15, 1, x.gain(1, 3, 2));
        fraction(-45, 1, x.gain(1, 3, 3));
        fraction(45, 1, x.gain(1, 3, 4));
        fraction(15, 1, x.gain(1, 3, 5));
        fraction(30, 1, x.gain(1, 3, 6));
    }

    private static void oneAtLeastNotAll() {
        sentence("of one at least, and not all, was HELPED");
        zeros(0, 16);
        for (int n = 2; n <= 16; n++) {
            int all = (1 << n) - 1;
            for (int bad : new int[] {0, all, all + 1, -1, LOW, HIGH}) {
                no(5, x.gain(0, n, bad));
            }
            yes(x.gain(0, n, all - 1));
            yes(x.gain(0, n, 1));
        }
        anew();
        zeros(0, 16);
        for (int n : new int[] {2, 3, 15, 16}) {
            int all = (1 << n) - 1;
            for (int bad : new int[] {0, all, all + 1, all + 2, -1, LOW, HIGH}) {
                no(5, x.chance(0, n, bad));
            }
            yes(x.chance(0, n, all - 1));
            yes(x.chance(0, n, 1));
        }
    }

    private static void gainIsDifferenceOfMeans() {
        sentence("GAIN: the mean of the HELPED less that of the others: a FRACTION.");
        fill(0, 0, 1, 2, 4, 8, 16);
        fraction(-13, 2, x.gain(0, 5, 1));
        fraction(-47, 6, x.gain(0, 5, 3));
        fraction(23, 6, x.gain(0, 5, 1 + 16));
        fraction(49, 4, x.gain(0, 5, 16));
        fraction(13, 2, x.gain(0, 5, 2 + 4 + 8 + 16));
        fill(1, 0, 7, 7, 7, 7);
        fraction(0, 1, x.gain(1, 4, 5));
        zeros(2, 16);
        for (int i = 0; i < 8; i++) {
            yes(x.write(2, i, 100));
        }
        fraction(100, 1, x.gain(2, 16, 255));
        fraction(-100, 1, x.gain(2, 16, 65280));
    }

    private static void allSetsOfAsMany() {
        sentence("CHANCE: of all sets of as many HELPED .. the share");
        zeros(0, 16);
        for (int i = 0; i < 16; i++) {
            yes(x.write(0, i, 3 * i));
        }
        fraction(1, 16, x.chance(0, 16, 32768));
        fraction(1, 120, x.chance(0, 16, 32768 + 16384));
        fraction(1, 560, x.chance(0, 16, 0xe000));
        fraction(1, 12870, x.chance(0, 16, 0xff00));
        fraction(1, 16, x.chance(0, 16, 0xfffe));
        fraction(1, 1, x.chance(0, 16, 0x7fff));
        fraction(1, 6, x.chance(0, 4, 12));
    }

    private static void notLess() {
        sentence("the share with a GAIN that is not less");
        fill(0, 0, 10, 20, 30, 40);
        fraction(1, 6, x.chance(0, 4, 4 + 8));
        fraction(1, 3, x.chance(0, 4, 2 + 8));
        fraction(2, 3, x.chance(0, 4, 1 + 8));
        fraction(2, 3, x.chance(0, 4, 2 + 4));
        fraction(5, 6, x.chance(0, 4, 1 + 4));
        fraction(1, 1, x.chance(0, 4, 1 + 2));
    }

    private static void outcomesAsTheyAre() {
        sentence("with the OUTCOMES as they are");
        fill(0, 0, 0, 5, 0, 5, 99);
        fraction(1, 2, x.chance(0, 4, 2));
        fraction(1, 6, x.chance(0, 4, 2 + 8));
        fraction(5, 6, x.chance(0, 4, 1 + 2));
        fraction(1, 1, x.chance(0, 4, 1 + 4));
        is(5, x.read(0, 3));
        is(99, x.read(0, 4));
        zeros(1, 16);
        fraction(1, 1, x.chance(1, 16, 255));
    }

    // ---- 3: DRAW

    private static void draws() {
        seeds();
        lotBelowH();
        leftToBeDrawn();
        lowerBits();
    }

    private static void seeds() {
        sentence("a SEED (0 to 2,147,483,647)");
        is(3, x.draw(4, 2, 0));
        is(5, x.draw(4, 2, 2147483647));
        none(5, x.draw(4, 2, -1));
        none(5, x.draw(4, 2, LOW));
        is(32, x.draw(16, 1, 2147483647));
        is(8192, x.draw(16, 1, 2147483646));
    }

    /** From 1 the LOTS are 16838, 5758, 10113, 17515; their rests by 4, 3, 2, 1 are 2, 1, 1, 0. */
    private static void lotBelowH() {
        sentence("from the first to the last, each is HELPED, if LOT rest m is below h");
        is(0, x.draw(4, 0, 1));
        is(8, x.draw(4, 1, 1));
        is(10, x.draw(4, 2, 1));
        is(11, x.draw(4, 3, 1));
        is(15, x.draw(4, 4, 1));
    }

    private static void leftToBeDrawn() {
        sentence("where m are left to be drawn (it too), h to be HELPED");
        for (int n = 1; n <= 16; n++) {
            is(0, x.draw(n, 0, 99));
            is((1 << n) - 1, x.draw(n, n, 99));
        }
        is(51595, x.draw(16, 8, 0));
        is(33660, x.draw(16, 8, HIGH));
        is(61439, x.draw(16, 15, 0));
    }

    private static void lowerBits() {
        sentence("1,103,515,245 times itself and 12,345, of that the lower 31 bits, and LOT is that by 65,536, rounded down");
        is(1, x.draw(2, 1, 0));
        is(1, x.draw(2, 1, 1));
        is(2, x.draw(2, 1, HIGH));
        is(1, x.draw(3, 1, 0));
        is(24, x.draw(5, 2, 7));
        is(10153, x.draw(16, 8, 1073741824));
    }

    // ---- how long an object lives

    private static void lifetime() {
        sentence("An object is used for at most 512 calls after it has been made");
        MentorPairs y = new MentorPairs();
        y.beginner();
        y.meeting(0, 0);
        for (int call = 3; call < 512; call++) {
            y.tell(0, call % 2 == 0, call);
        }
        due("the 512th call", y.met(0, 202, 0), 1);
        MentorPairs z = new MentorPairs();
        z.run(1, true);
        for (int call = 2; call < 511; call++) {
            z.draw(16, 8, call);
        }
        due("the 511th call", z.lasts(1) ? 1 : 0, 1);
        due("the 512th call", z.lower(), 1);
    }
}
