import java.util.NoSuchElementException;

/** Promises 27 to 36: the sorter and the kiln. */
public final class KilnTest {
    private static final Class<IndexOutOfBoundsException> INDEX = IndexOutOfBoundsException.class;
    private static final Class<IllegalArgumentException> ARGUMENT = IllegalArgumentException.class;
    private static final Class<UnsupportedOperationException> UNSUPPORTED = UnsupportedOperationException.class;
    private static final Class<IllegalStateException> STATE = IllegalStateException.class;
    private static final Class<NoSuchElementException> MISSING = NoSuchElementException.class;

    private KilnTest() {
    }

    /** Boards of 2 columns and 48 cells, one a log, each with rot; each log leaves 12 chips and 12 cells of dust. */
    private static Kerfhall millWithBoards(int count) {
        Kerfhall mill = new Kerfhall();
        for (int log = 0; log < count; log++) {
            mill.addLog(4, 4, false);
            mill.addRot(log, 0, 1);
            mill.scan(log, 's');
            mill.saw(log);
            mill.file();
        }
        return mill;
    }

    /** Makes all boards with rot to be of one grade, if they have no checks. */
    private static void gradeAll(Kerfhall mill, int grade) {
        for (int rule = 0; rule < 3; rule++) {
            mill.setRule(rule, 30, 20, rule == grade, true);
        }
    }

    private static void promise27Tick() {
        Kerfhall mill = millWithBoards(10);
        Check.refused(mill, "0 ticks", ARGUMENT, () -> mill.tick(0));
        Check.refused(mill, "51 ticks", ARGUMENT, () -> mill.tick(51));
        Check.refused(mill, "least int", ARGUMENT, () -> mill.tick(Integer.MIN_VALUE));
        Check.due("nothing ticked", mill.queue(), 10);
        gradeAll(mill, 0);
        Check.due("a board a tick", mill.tick(5), 0);
        Check.due("bins", Mills.binsOf(mill), "5 of 20, 0, 0, 0, 5 wait");
        gradeAll(mill, 1);
        Check.due("another class", mill.tick(1), 0);
        gradeAll(mill, 2);
        mill.tick(1);
        Check.due("bins", Mills.binsOf(mill), "5 of 20, 1 of 21, 1 of 22, 0, 3 wait");
        gradeAll(mill, 0);
        Check.due("the bin of the class goes ahead", mill.tick(1), 0);
        Check.due("bins", Mills.binsOf(mill), "6 of 20, 1 of 21, 1 of 22, 0, 2 wait");
        mill.tick(1);
        Check.due("a full bin gives way to an empty one", Mills.binsOf(mill),
                "6 of 20, 1 of 21, 1 of 22, 1 of 20, 1 wait");
        gradeAll(mill, 3);
        Check.due("jams", mill.tick(50), 50);
        Check.due("the board stays", Mills.binsOf(mill), "6 of 20, 1 of 21, 1 of 22, 1 of 20, 1 wait");
        gradeAll(mill, 0);
        Check.due("no jam", mill.tick(3), 0);
        Check.due("the lowest one that is not full", Mills.binsOf(mill), "6 of 20, 1 of 21, 1 of 22, 2 of 20, 0 wait");
        Check.due("no boards wait", mill.tick(50), 0);
    }

    private static void promise27Jam() {
        Kerfhall mill = millWithBoards(6);
        for (int grade = 0; grade < 4; grade++) {
            gradeAll(mill, grade);
            mill.tick(1);
        }
        Check.due("bins", Mills.binsOf(mill), "1 of 20, 1 of 21, 1 of 22, 1 of 23, 2 wait");
        mill.charge(1);
        gradeAll(mill, 2);
        mill.tick(1);
        Check.due("a higher bin of the class goes ahead of an empty one", Mills.binsOf(mill),
                "1 of 20, 0, 2 of 22, 1 of 23, 1 wait");
        gradeAll(mill, 1);
        mill.tick(1);
        Check.due("the empty bin", Mills.binsOf(mill), "1 of 20, 1 of 21, 2 of 22, 1 of 23, 0 wait");
    }

    private static void promise28To30QueueInBinClassOf() {
        Kerfhall mill = millWithBoards(2);
        Check.due("queue", mill.queue(), 2);
        Check.due("in the bin", mill.inBin(0), 0);
        Check.refused(mill, "class of an empty bin", MISSING, () -> mill.classOf(0));
        mill.tick(1);
        Check.due("queue", mill.queue(), 1);
        Check.due("in the bin", mill.inBin(0), 1);
        Check.due("class", mill.classOf(0), 22);
        gradeAll(mill, 3);
        Check.due("class while it is not empty", mill.classOf(0), 22);
        mill.tick(1);
        Check.due("class of refused boards", mill.classOf(1), 23);
        mill.charge(0);
        Check.refused(mill, "class of a bin that was emptied", MISSING, () -> mill.classOf(0));
        for (int bin : new int[] {-1, 4}) {
            Check.refused(mill, "inBin " + bin, INDEX, () -> mill.inBin(bin));
            Check.refused(mill, "classOf " + bin, INDEX, () -> mill.classOf(bin));
        }
        Kerfhall thick = new Kerfhall();
        thick.addLog(8, 8, false);
        thick.scan(0, 's');
        thick.saw(0);
        thick.tick(2);
        Check.due("classes by the thickness", Mills.binsOf(thick), "1 of 30, 1 of 20, 0, 0, 0 wait");
    }

    private static void promise31SetStep() {
        Kerfhall mill = new Kerfhall();
        for (int step = 0; step < 4; step++) {
            Check.due("first drop", mill.setStep(step, 9 - step), 2);
            Check.due("drop then", mill.setStep(step, 1), 9 - step);
        }
        Check.refused(mill, "step 4", ARGUMENT, () -> mill.setStep(4, 1));
        Check.refused(mill, "step -1", ARGUMENT, () -> mill.setStep(-1, 1));
        Check.refused(mill, "drop 0", ARGUMENT, () -> mill.setStep(0, 0));
        Check.refused(mill, "drop 10", ARGUMENT, () -> mill.setStep(0, 10));
        Check.due("nothing changed", mill.setStep(0, 2), 1);
    }

    private static void promise31Steps() {
        Kerfhall mill = millWithBoards(10);
        mill.tick(10);
        for (int step = 0; step < 4; step++) {
            mill.setStep(step, step + 1);
        }
        Check.due("bins", Mills.binsOf(mill), "6 of 22, 4 of 22, 0, 0, 0 wait");
        mill.charge(1);
        StringBuilder all = new StringBuilder();
        for (int tick = 0; tick < 18; tick++) {
            mill.tick(1);
            all.append(mill.moisture(6)).append(' ');
        }
        Check.due("moisture by the steps", all.toString(), "59 58 57 56 55 53 51 49 47 45 42 39 36 33 30 26 22 18 ");
        mill.setStep(3, 3);
        mill.tick(1);
        Check.due("a drop that was changed in its step", mill.moisture(6), 15);
        mill.tick(10);
        Check.due("not below 6", mill.moisture(6), 6);
        Check.due("others do not dry", mill.moisture(0), 60);
        mill.empty();
        mill.charge(0);
        mill.tick(1);
        Check.due("the first step again", mill.moisture(0), 59);
    }

    private static void promise32Charge() {
        Kerfhall mill = millWithBoards(8);
        mill.tick(8);
        Check.due("bins", Mills.binsOf(mill), "6 of 22, 2 of 22, 0, 0, 0 wait");
        Check.refused(mill, "bin 4", INDEX, () -> mill.charge(4));
        Check.refused(mill, "bin -1", INDEX, () -> mill.charge(-1));
        Check.refused(mill, "an empty bin", UNSUPPORTED, () -> mill.charge(2));
        Check.due("all of a bin", mill.charge(0), 6);
        Check.due("bins", Mills.binsOf(mill), "0, 2 of 22, 0, 0, 0 wait");
        Check.due("state", mill.stateOf(5), 'k');
        Check.refused(mill, "a full kiln", STATE, () -> mill.charge(1));
        Check.refused(mill, "a full kiln and an empty bin", UNSUPPORTED, () -> mill.charge(0));
        mill.empty();
        Check.due("an emptied kiln", mill.charge(1), 2);
    }

    private static void promise32Heat() {
        Kerfhall mill = millWithBoards(1);
        Check.due("heat", Mills.heatOf(mill), "12 dust, 12 chips, 0 burnt");
        mill.tick(1);
        mill.setStep(0, 1);
        mill.setStep(1, 3);
        mill.setStep(2, 7);
        mill.charge(0);
        mill.tick(2);
        Check.due("dust goes first", Mills.heatOf(mill), "4 dust, 12 chips, 8 burnt");
        mill.condition();
        Check.due("dust, and chips for the rest", Mills.heatOf(mill), "0 dust, 10 chips, 14 burnt");
        mill.tick(2);
        Check.due("chips", Mills.heatOf(mill), "0 dust, 2 chips, 22 burnt");
        Check.due("dry so far", mill.moisture(0), 56);
        mill.tick(2);
        Check.due("too little is not used", Mills.heatOf(mill), "0 dust, 2 chips, 22 burnt");
        Check.due("and does not dry", mill.moisture(0), 56);
        Check.refused(mill, "nor does it condition", UNSUPPORTED, () -> mill.condition());
        mill.tick(4);
        mill.addLog(4, 4, false);
        mill.scan(1, 's');
        mill.saw(1);
        mill.tick(1);
        Check.due("the time of the steps went on", mill.moisture(0), 49);
        mill.empty();
        mill.tick(3);
        Check.due("an empty kiln needs nothing", mill.burnt(), 26);
        Check.due("sound", mill.isSound(), true);
    }

    private static void promise32ExactHeat() {
        Kerfhall mill = millWithBoards(1);
        mill.tick(1);
        mill.charge(0);
        mill.tick(5);
        Check.due("4 cells are left", Mills.heatOf(mill), "0 dust, 4 chips, 20 burnt");
        mill.tick(1);
        Check.due("4 cells are enough", Mills.heatOf(mill), "0 dust, 0 chips, 24 burnt");
        Check.due("and dry", mill.moisture(0), 48);
    }

    private static void promise33Condition() {
        Kerfhall fresh = new Kerfhall();
        Check.refused(fresh, "no heat, and no boards", UNSUPPORTED, () -> fresh.condition());
        Kerfhall mill = millWithBoards(2);
        mill.tick(2);
        Check.refused(mill, "no boards", STATE, () -> mill.condition());
        Check.due("nothing was used", mill.burnt(), 0);
        mill.charge(0);
        mill.setStep(0, 5);
        mill.tick(5);
        Check.due("stress less 3", mill.condition(), 2);
        Check.due("at least 0", mill.condition(), 0);
        Check.due("heat", Mills.heatOf(mill), "0 dust, 16 chips, 32 burnt");
        mill.condition();
        mill.tick(1);
        Check.due("6 cells are left", Mills.heatOf(mill), "0 dust, 6 chips, 42 burnt");
        Check.due("6 cells are enough", mill.condition(), 0);
        Check.refused(mill, "none are not", UNSUPPORTED, () -> mill.condition());
        Check.due("no checks by a stress of 5", mill.hasChecks(0), false);
    }

    private static void promise33GreatestStress() {
        Kerfhall mill = millWithBoards(2);
        mill.setStep(0, 9);
        mill.tick(1);
        mill.charge(0);
        mill.tick(1);
        Check.due("stress of the first", mill.condition(), 2);
        mill.empty();
        mill.tick(1);
        mill.charge(0);
        mill.tick(1);
        Check.due("stress of the second alone", mill.condition(), 2);
        mill.empty();
        Check.refused(mill, "emptied", STATE, () -> mill.condition());
    }

    private static void promise34Empty() {
        Kerfhall mill = millWithBoards(8);
        Check.refused(mill, "no boards", STATE, () -> mill.empty());
        mill.tick(8);
        mill.charge(1);
        Check.due("boards", mill.empty(), 2);
        Check.due("in the yard", mill.inYard(), 2);
        Check.due("state", mill.stateOf(6), 'y');
        Check.refused(mill, "no boards", STATE, () -> mill.empty());
        mill.charge(0);
        mill.setStep(0, 9);
        mill.tick(5);
        Check.due("boards", mill.empty(), 6);
        Check.due("in the yard", mill.inYard(), 8);
    }

    private static void promise35Moisture() {
        Kerfhall mill = millWithBoards(1);
        Check.due("first moisture", mill.moisture(0), 60);
        Check.refused(mill, "board 1", INDEX, () -> mill.moisture(1));
        Check.refused(mill, "board -1", INDEX, () -> mill.moisture(-1));
        mill.tick(10);
        Check.due("no drying in a bin", mill.moisture(0), 60);
        mill.charge(0);
        mill.tick(1);
        Check.due("2 less", mill.moisture(0), 58);
    }

    private static void promise36Checks() {
        Kerfhall mill = millWithBoards(1);
        mill.tick(1);
        mill.charge(0);
        mill.setStep(0, 5);
        mill.setStep(1, 5);
        mill.tick(5);
        Check.due("a stress of 5", mill.hasChecks(0), false);
        Check.due("grade", mill.gradeOf(0), 2);
        mill.tick(1);
        Check.due("a stress of 6", mill.hasChecks(0), true);
        Check.due("grade", mill.gradeOf(0), 3);
        gradeAll(mill, 0);
        Check.due("grade", mill.gradeOf(0), 1);
        gradeAll(mill, 3);
        Check.due("grade at most 3", mill.gradeOf(0), 3);
        Check.refused(mill, "board 1", INDEX, () -> mill.hasChecks(1));
        Check.refused(mill, "board -1", INDEX, () -> mill.hasChecks(-1));
    }

    private static void promise36ByThickness() {
        Kerfhall mill = new Kerfhall();
        mill.addLog(8, 8, false);
        mill.scan(0, 's');
        mill.saw(0);
        mill.tick(2);
        Check.due("a thickness of 3", mill.charge(0), 1);
        mill.setStep(0, 4);
        mill.setStep(1, 3);
        mill.tick(5);
        mill.tick(5);
        Check.due("a stress of 5", mill.condition(), 2);
        Check.due("no checks", mill.hasChecks(0), false);
        mill.setStep(2, 7);
        mill.tick(1);
        Check.due("a stress of 6", mill.hasChecks(0), true);
        Check.due("less by 3", mill.condition(), 3);
        mill.condition();
        Check.due("checks stay", mill.hasChecks(0), true);
        mill.empty();
        mill.charge(1);
        mill.setStep(0, 4);
        mill.tick(5);
        Check.due("no stress by a drop of 4 for a thickness of 2", mill.condition(), 0);
    }

    public static void main(String[] args) {
        promise27Tick();
        promise27Jam();
        promise28To30QueueInBinClassOf();
        promise31SetStep();
        promise31Steps();
        promise32Charge();
        promise32Heat();
        promise32ExactHeat();
        promise33Condition();
        promise33GreatestStress();
        promise34Empty();
        promise35Moisture();
        promise36Checks();
        promise36ByThickness();
        Check.end("KilnTest");
    }
}
