/** The boundary cases that the document's words on sorting and the kiln name, a test for each sentence. */
public final class KilnEdgeTest {
    private static final Class<UnsupportedOperationException> UNSUPPORTED = UnsupportedOperationException.class;

    private KilnEdgeTest() {
    }

    private static String moisturesOf(Kerfhall mill, int ticks) {
        StringBuilder all = new StringBuilder();
        for (int tick = 0; tick < ticks; tick++) {
            mill.tick(1);
            all.append(mill.moisture(0)).append(' ');
        }
        return all.toString().trim();
    }

    /** A board in the kiln, with heat for more ticks than the tests have. */
    private static Kerfhall charged() {
        Kerfhall mill = Mills.ofBoards(1);
        Mills.feedKiln(mill, 1);
        mill.tick(1);
        mill.charge(0);
        return mill;
    }

    /** A board with a thickness of 3 in the kiln, with heat for more ticks than the tests have. */
    private static Kerfhall chargedThick() {
        Kerfhall mill = Mills.ofLogs(1, 8, "s");
        Mills.setPrices(mill, 0, 10);
        mill.saw(0);
        Mills.feedKiln(mill, 1);
        mill.tick(1);
        Check.due("thickness", mill.partOf(0, 't'), 3);
        mill.charge(0);
        return mill;
    }

    /** A board that takes that much stress on by one tick each; the first step's drop is the last of these then. */
    private static void stress(Kerfhall mill, int... drops) {
        for (int drop : drops) {
            mill.setStep(0, drop);
            mill.tick(1);
        }
    }

    /** "In a tick, the first board of the queue goes", one alone, and the others behind it in their order. */
    private static void oneBoardATick() {
        Kerfhall mill = Mills.ofBoards(3);
        for (int board = 0; board < 3; board++) {
            Check.due("in the queue", mill.queue(), 3 - board);
            Check.due("no jam", mill.tick(1), 0);
            Check.due("in the bin", mill.inBin(0), board + 1);
            Check.due("states", Mills.statesOf(mill), "bbb".substring(0, board + 1) + "qqq".substring(board + 1));
        }
        Check.due("nobody waits", mill.tick(50), 0);
        Check.due("bins", Mills.binsOf(mill), "3 of 20, 0, 0, 0, 0 wait");
    }

    /** "The lowest bin that is not full whose class is its thickness and grade", "6 boards each". */
    private static void sixBoardsEach() {
        Kerfhall mill = Mills.ofBoards(8);
        mill.tick(5);
        Check.due("five", Mills.binsOf(mill), "5 of 20, 0, 0, 0, 3 wait");
        mill.tick(1);
        Check.due("six", Mills.binsOf(mill), "6 of 20, 0, 0, 0, 2 wait");
        Check.due("no jam", mill.tick(1), 0);
        Check.due("seven", Mills.binsOf(mill), "6 of 20, 1 of 20, 0, 0, 1 wait");
        mill.charge(0);
        mill.tick(1);
        Check.due("a bin of the class goes ahead of an empty lower one", Mills.binsOf(mill),
                "0, 2 of 20, 0, 0, 0 wait");
    }

    /** "Else into the lowest empty bin, whose class becomes this." */
    private static void lowestEmptyBin() {
        Kerfhall mill = Mills.ofBins();
        Check.due("bins", Mills.binsOf(mill), "1 of 20, 1 of 21, 1 of 22, 1 of 23, 1 wait");
        mill.charge(2);
        mill.empty();
        mill.charge(1);
        mill.empty();
        Mills.gradeRot(mill, 2);
        Check.due("no jam", mill.tick(1), 0);
        Check.due("bins", Mills.binsOf(mill), "1 of 20, 1 of 22, 0, 1 of 23, 0 wait");
    }

    /** "Else it stays, and that is a jam": one for each tick, and no board behind it gets by. */
    private static void jams() {
        Kerfhall stuck = stuck();
        Check.due("a jam", stuck.tick(1), 1);
        Check.due("fifty jams", stuck.tick(50), 50);
        Check.due("bins", Mills.binsOf(stuck), "1 of 30, 1 of 31, 1 of 32, 1 of 33, 2 wait");
        Check.due("states", Mills.statesOf(stuck).substring(4), "qq");
        stuck.charge(3);
        stuck.empty();
        Check.due("room for the first, then for the second", stuck.tick(2), 0);
        Check.due("bins", Mills.binsOf(stuck), "2 of 30, 1 of 31, 1 of 32, 1 of 20, 0 wait");
    }

    /** Bins with all classes of the thickness 3; a board of 2 waits for one, and behind it a board of 3. */
    private static Kerfhall stuck() {
        Kerfhall mill = Mills.ofLogs(6, 4, "s");
        for (int log = 0; log < 6; log++) {
            mill.addRot(log, 0, 1);
            Mills.setPrices(mill, log == 4 ? 10 : 0, log == 4 ? 0 : 10);
            mill.saw(log);
            mill.file();
        }
        for (int grade = 0; grade <= 3; grade++) {
            for (int rule = 0; rule < 3; rule++) {
                mill.setRule(rule, 30, 0, rule == grade, true);
            }
            mill.tick(1);
        }
        mill.setRule(0, 30, 0, true, true);
        return mill;
    }

    /** "A bin keeps its class until it is empty", whatever becomes of its boards. */
    private static void binsKeepTheirClass() {
        Kerfhall mill = Mills.ofRottenBoards(3);
        Mills.gradeRot(mill, 0);
        mill.tick(1);
        Mills.gradeRot(mill, 1);
        Check.due("the class stays", mill.classOf(0), 20);
        mill.trim(0, 1, 5);
        mill.rip(0, 6, 3);
        Check.due("and stays", mill.classOf(0), 20);
        mill.tick(1);
        Check.due("boards of the class now go elsewhere", Mills.binsOf(mill), "1 of 20, 1 of 21, 0, 0, 1 wait");
        Mills.gradeRot(mill, 0);
        mill.tick(1);
        Check.due("those of its own come to it", Mills.binsOf(mill), "2 of 20, 1 of 21, 0, 0, 0 wait");
    }

    /** "It takes all boards of a bin": one, and six. */
    private static void takesAllOfABin() {
        for (int count : new int[] {1, 5, 6}) {
            Kerfhall mill = Mills.ofBoards(count);
            mill.tick(count);
            Check.due("boards", mill.charge(0), count);
            Check.due("none left", mill.inBin(0), 0);
            Check.due("states", Mills.statesOf(mill), "kkkkkk".substring(0, count));
            mill.tick(1);
            Check.due("the last one dries, too", mill.moisture(count - 1), 58);
            Check.due("heat for all of them", mill.burnt(), 4);
            Check.due("emptied", mill.empty(), count);
            Check.due("in the yard", mill.inYard(), count);
            Check.due("states", Mills.statesOf(mill), "yyyyyy".substring(0, count));
        }
    }

    /** "4 steps, each with a drop from 1 to 9, 2 at first." */
    private static void dropsOfTwoAtFirst() {
        Check.due("moisture", moisturesOf(charged(), 22),
                "58 56 54 52 50 48 46 44 42 40 38 36 34 32 30 28 26 24 22 20 18 16");
    }

    /** "The first one begins as it is charged, and each one lasts 5 ticks, the last one till the kiln is emptied." */
    private static void stepsOfFiveTicks() {
        Kerfhall mill = charged();
        for (int step = 0; step < 4; step++) {
            mill.setStep(step, 4 - step);
        }
        Check.due("moisture", moisturesOf(mill, 25),
                "56 52 48 44 40 37 34 31 28 25 23 21 19 17 15 14 13 12 11 10 9 8 7 6 6");
        Kerfhall late = Mills.ofBoards(2);
        Mills.feedKiln(late, 2);
        late.setStep(0, 3);
        late.setStep(1, 1);
        late.tick(2);
        late.tick(7);
        late.charge(0);
        Check.due("ticks ahead of the charge do not count", moisturesOf(late, 6), "57 54 51 48 45 44");
    }

    /** The first step begins again as the kiln is charged once more. */
    private static void stepsBeginAgain() {
        Kerfhall mill = Mills.ofBoards(1);
        Mills.feedKiln(mill, 1);
        mill.addLog(4, 4, false);
        mill.scan(2, 's');
        mill.tick(1);
        mill.charge(0);
        mill.tick(17);
        mill.empty();
        mill.saw(2);
        mill.tick(1);
        mill.setStep(0, 1);
        mill.setStep(3, 9);
        mill.charge(0);
        mill.tick(5);
        Check.due("the first step's drop", mill.moisture(1), 55);
        Check.due("the first board does not dry in the yard", mill.moisture(0), 26);
    }

    /** "It needs 4 cells, of dust as far as there is some, and of chips for the rest." */
    private static void dustGoesFirst() {
        Kerfhall mill = Mills.ofBoards(1);
        mill.tick(1);
        Check.due("heat", Mills.heatOf(mill), "12 dust, 12 chips, 0 burnt");
        mill.charge(0);
        mill.condition();
        Check.due("6 of dust", Mills.heatOf(mill), "6 dust, 12 chips, 6 burnt");
        mill.tick(1);
        Check.due("4 of dust", Mills.heatOf(mill), "2 dust, 12 chips, 10 burnt");
        mill.tick(1);
        Check.due("2 of dust, 2 of chips", Mills.heatOf(mill), "0 dust, 10 chips, 14 burnt");
        mill.tick(1);
        Check.due("4 of chips", Mills.heatOf(mill), "0 dust, 6 chips, 18 burnt");
        mill.condition();
        Check.due("6 of chips", Mills.heatOf(mill), "0 dust, 0 chips, 24 burnt");
        Check.due("dry", mill.moisture(0), 54);
        mill.tick(1);
        Check.due("nothing is left", Mills.heatOf(mill), "0 dust, 0 chips, 24 burnt");
        Check.due("no drier", mill.moisture(0), 54);
        Check.due("sound", mill.isSound(), true);
    }

    /** A board of 45 cells in the kiln, and 27 cells of dust and chips. */
    private static Kerfhall oddHeat() {
        Kerfhall mill = Mills.ofLogs(1, 4, "s");
        mill.setSweep(0, 0, 1, 1);
        mill.saw(0);
        mill.tick(1);
        mill.charge(0);
        Check.due("cells", mill.dust() + mill.chips(), 27);
        return mill;
    }

    /** "Without so much, nothing is used or dried, but the time of the step goes on": 3 cells are not 4. */
    private static void threeCellsAreTooFew() {
        Kerfhall mill = oddHeat();
        mill.setStep(0, 9);
        mill.setStep(1, 1);
        mill.setStep(2, 3);
        Check.due("six ticks", moisturesOf(mill, 6), "51 42 33 24 15 14");
        Check.due("cells left", mill.dust() + mill.chips(), 3);
        mill.setStep(1, 9);
        Check.due("no more heat", moisturesOf(mill, 5), "14 14 14 14 14");
        Check.due("nothing is used", mill.burnt(), 24);
        Check.due("3 cells", mill.dust() + mill.chips(), 3);
        Mills.addLog(mill, 4, false, "s");
        mill.saw(1);
        Check.due("the third step since its tick", moisturesOf(mill, 5), "11 8 6 6 6");
    }

    /** Without heat, there is no stress either. */
    private static void noStressWithoutHeat() {
        Kerfhall mill = oddHeat();
        mill.setStep(0, 1);
        mill.tick(4);
        mill.condition();
        Check.due("cells left", mill.dust() + mill.chips(), 5);
        Check.refused(mill, "5 cells are not 6", UNSUPPORTED, () -> mill.condition());
        mill.setStep(0, 9);
        mill.tick(1);
        Check.due("dried once", mill.moisture(0), 47);
        Check.due("one cell is left", mill.dust() + mill.chips(), 1);
        mill.setStep(1, 9);
        mill.tick(5);
        Check.due("a stress of 5", mill.hasChecks(0), false);
    }

    /** "Conditioning needs 6 cells likewise": exactly these are enough. */
    private static void sixCellsAreEnough() {
        Kerfhall mill = Mills.ofBoards(1);
        mill.tick(1);
        mill.charge(0);
        mill.condition();
        mill.condition();
        mill.condition();
        Check.due("cells left", Mills.heatOf(mill), "0 dust, 6 chips, 18 burnt");
        Check.due("conditioned", mill.condition(), 0);
        Check.due("cells left", Mills.heatOf(mill), "0 dust, 0 chips, 24 burnt");
        Check.due("moisture", mill.moisture(0), 60);
    }

    /** "Each board loses the drop in moisture, which is 60 at first, but not below 6." */
    private static void notBelowSix() {
        Kerfhall mill = charged();
        for (int step = 0; step < 4; step++) {
            mill.setStep(step, 9);
        }
        Check.due("by nine", moisturesOf(mill, 8), "51 42 33 24 15 6 6 6");
        Kerfhall other = charged();
        for (int step = 0; step < 4; step++) {
            other.setStep(step, 8);
        }
        Check.due("by eight", moisturesOf(other, 8), "52 44 36 28 20 12 6 6");
        Kerfhall slow = charged();
        for (int step = 0; step < 4; step++) {
            slow.setStep(step, 1);
        }
        slow.tick(50);
        Check.due("by one", moisturesOf(slow, 6), "9 8 7 6 6 6");
    }

    /** "As much more stress as the drop is more than 4 for a thickness of 2", "with a stress of more than 5". */
    private static void stressOfTwo() {
        for (int drop = 1; drop <= 9; drop++) {
            Kerfhall mill = charged();
            stress(mill, drop, drop);
            int due = 2 * Math.max(0, drop - 4);
            Check.due("checks by twice " + drop, mill.hasChecks(0), due > 5);
            Check.due("stress behind it", mill.condition(), Math.max(0, due - 3));
        }
        Kerfhall five = charged();
        stress(five, 9);
        Check.due("a stress of 5", five.hasChecks(0), false);
        stress(five, 4, 1);
        Check.due("a stress of 5 still", five.hasChecks(0), false);
        stress(five, 5);
        Check.due("a stress of 6", five.hasChecks(0), true);
    }

    /** "Or 3 for one of 3." */
    private static void stressOfThree() {
        for (int drop = 1; drop <= 9; drop++) {
            Kerfhall mill = chargedThick();
            stress(mill, drop);
            Check.due("checks by " + drop, mill.hasChecks(0), drop == 9);
            Check.due("stress behind it", mill.condition(), Math.max(0, drop - 6));
        }
        Kerfhall five = chargedThick();
        stress(five, 8, 3, 1);
        Check.due("a stress of 5", five.hasChecks(0), false);
        stress(five, 4);
        Check.due("a stress of 6", five.hasChecks(0), true);
    }

    /** "As much more stress as the drop is more": the drop of the step, also where no moisture is left to lose. */
    private static void stressAtAMoistureOfSix() {
        Kerfhall mill = charged();
        for (int step = 0; step < 4; step++) {
            mill.setStep(step, 4);
        }
        mill.tick(20);
        Check.due("moisture", mill.moisture(0), 6);
        mill.setStep(3, 9);
        mill.tick(1);
        Check.due("a stress of 5", mill.hasChecks(0), false);
        mill.setStep(3, 5);
        mill.tick(1);
        Check.due("a stress of 6", mill.hasChecks(0), true);
        Check.due("moisture", mill.moisture(0), 6);
    }

    /** "It has checks from then on": also with less stress, in the yard, and delivered. */
    private static void checksStay() {
        Kerfhall mill = charged();
        Check.due("none at first", mill.hasChecks(0), false);
        stress(mill, 9, 5);
        Check.due("checks", mill.hasChecks(0), true);
        mill.condition();
        Check.due("no stress any more", mill.condition(), 0);
        Check.due("checks still", mill.hasChecks(0), true);
        mill.setStep(0, 9);
        mill.tick(5);
        mill.empty();
        mill.trim(0, 0, 2);
        Check.due("checks in the yard", mill.hasChecks(0), true);
        mill.addOrder(2, 3, 2, 0, 0, false);
        mill.deliver(0);
        Check.due("checks of a delivered one", mill.hasChecks(0), true);
    }

    /** "Lessens the stress of each board by 3, at least to 0": what is less than 3 does not count for later. */
    private static void stressAtLeastZero() {
        Kerfhall mill = charged();
        stress(mill, 9);
        Check.due("5 less 3", mill.condition(), 2);
        Check.due("2 less 3", mill.condition(), 0);
        Check.due("0 less 3", mill.condition(), 0);
        stress(mill, 9);
        Check.due("a stress of 5", mill.hasChecks(0), false);
        stress(mill, 5);
        Check.due("a stress of 6", mill.hasChecks(0), true);
        Check.due("6 less 3", mill.condition(), 3);
        Check.due("3 less 3", mill.condition(), 0);
    }

    /** Conditioning takes no time of the step, and no moisture. */
    private static void conditioningTakesNoTime() {
        Kerfhall mill = charged();
        mill.setStep(0, 1);
        mill.setStep(1, 3);
        mill.tick(4);
        mill.condition();
        mill.condition();
        Check.due("moisture", mill.moisture(0), 56);
        Check.due("the fifth tick, and the next one", moisturesOf(mill, 2), "55 52");
    }

    /** "In a tick with boards in it": without boards, it needs nothing. */
    private static void anEmptyKilnNeedsNothing() {
        Kerfhall mill = Mills.ofBoards(1);
        mill.tick(50);
        Check.due("heat", Mills.heatOf(mill), "12 dust, 12 chips, 0 burnt");
        mill.charge(0);
        mill.empty();
        mill.tick(50);
        Check.due("heat", Mills.heatOf(mill), "12 dust, 12 chips, 0 burnt");
        Check.due("moisture", mill.moisture(0), 60);
    }

    /** "Boards of a kiln that is emptied come to the end of the yard", in their order. */
    private static void endOfTheYard() {
        Kerfhall mill = Mills.ofRottenBoards(5);
        Mills.feedKiln(mill, 5);
        Mills.gradeRot(mill, 0);
        mill.tick(2);
        Mills.gradeRot(mill, 1);
        mill.tick(3);
        Check.due("bins", Mills.binsOf(mill), "2 of 20, 3 of 21, 0, 0, 0 wait");
        for (int bin = 1; bin >= 0; bin--) {
            mill.charge(bin);
            mill.tick(21);
            mill.empty();
        }
        // The yard has the boards 2, 3, 4, 0 and 1 now.
        StringBuilder all = new StringBuilder();
        for (int order = 0; order < 5; order++) {
            mill.addOrder(2, 3, 6, 0, 1, false);
            mill.deliver(order);
            all.append(Mills.statesOf(mill)).append(' ');
        }
        Check.due("delivered one by one", all.toString(), "yydyy yyddy yyddd dyddd ddddd ");
    }

    /** "Tells the drop of a step", from the next tick on. */
    private static void dropsFromTheNextTickOn() {
        Kerfhall mill = charged();
        Check.due("drop before", mill.setStep(0, 9), 2);
        Check.due("drop before", mill.setStep(0, 1), 9);
        Check.due("drop before", mill.setStep(3, 1), 2);
        Check.due("drop before", mill.setStep(3, 9), 1);
        mill.tick(1);
        Check.due("moisture", mill.moisture(0), 59);
        Check.due("drop before", mill.setStep(0, 3), 1);
        mill.tick(1);
        Check.due("moisture", mill.moisture(0), 56);
    }

    public static void main(String[] args) {
        oneBoardATick();
        sixBoardsEach();
        lowestEmptyBin();
        jams();
        binsKeepTheirClass();
        takesAllOfABin();
        dropsOfTwoAtFirst();
        stepsOfFiveTicks();
        stepsBeginAgain();
        dustGoesFirst();
        threeCellsAreTooFew();
        noStressWithoutHeat();
        sixCellsAreEnough();
        notBelowSix();
        stressOfTwo();
        stressOfThree();
        stressAtAMoistureOfSix();
        checksStay();
        stressAtLeastZero();
        conditioningTakesNoTime();
        anEmptyKilnNeedsNothing();
        endOfTheYard();
        dropsFromTheNextTickOn();
        Check.end("KilnEdgeTest");
    }
}
