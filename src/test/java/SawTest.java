/** Promises 15 to 26: sawing, boards and cutting again. */
public final class SawTest {
    private static final Class<IndexOutOfBoundsException> INDEX = IndexOutOfBoundsException.class;
    private static final Class<IllegalArgumentException> ARGUMENT = IllegalArgumentException.class;
    private static final Class<UnsupportedOperationException> UNSUPPORTED = UnsupportedOperationException.class;
    private static final Class<IllegalStateException> STATE = IllegalStateException.class;

    private SawTest() {
    }

    /**
     * Logs of the diameter 4, each with 72 cells of wood. The board of one is of the columns 7 and 8, the rows 6 to 9
     * and all slices, 48 cells; the column 9 behind it has 12 cells, the column 6 as many.
     */
    private static Kerfhall millWithThinLogs(int count) {
        Kerfhall mill = new Kerfhall();
        for (int log = 0; log < count; log++) {
            mill.addLog(4, 4, log == 0);
            mill.scan(log, 's');
        }
        return mill;
    }

    private static String leftOf(Kerfhall mill) {
        return mill.chips() + " chips, " + mill.dust() + " dust, " + mill.balance() + " balance";
    }

    private static void promise15Saw() {
        Kerfhall mill = millWithThinLogs(2);
        mill.addLog(8, 8, false);
        Check.due("boards", mill.saw(0), 1);
        Check.due("parts", Mills.partsOf(mill, 0), "7 2 6 4 0 6");
        Check.due("left", leftOf(mill), "12 chips, 12 dust, 48 balance");
        Check.due("wear", mill.wear(), 1);
        Check.due("in the queue", mill.queue(), 1);
        Check.due("an uncertified log", mill.saw(1), 1);
        Check.due("left", leftOf(mill), "24 chips, 24 dust, 48 balance");
        Check.refused(mill, "sawn", UNSUPPORTED, () -> mill.saw(0));
        Check.refused(mill, "not scanned", UNSUPPORTED, () -> mill.saw(2));
        mill.scan(2, 'r');
        mill.scan(2, 'm');
        Check.refused(mill, "not scanned by 's' or 'l'", UNSUPPORTED, () -> mill.saw(2));
        Check.refused(mill, "log 3", INDEX, () -> mill.saw(3));
        Check.refused(mill, "log -1", INDEX, () -> mill.saw(-1));
        mill.scan(2, 'l');
        Check.due("two boards", mill.saw(2), 2);
        Check.due("first board", Mills.partsOf(mill, 2), "6 3 4 8 0 6");
        Check.due("second board", Mills.partsOf(mill, 3), "10 2 6 4 0 6");
        Check.due("sound", mill.isSound(), true);
    }

    private static void promise15WithoutBoards() {
        Kerfhall mill = millWithThinLogs(1);
        for (int grade = 0; grade < 3; grade++) {
            mill.setPrice(2, grade, 0);
            mill.setPrice(3, grade, 0);
        }
        Check.due("no boards", mill.saw(0), 0);
        Check.due("all is chips", leftOf(mill), "72 chips, 0 dust, 0 balance");
        Check.due("wear", mill.wear(), 1);
    }

    private static Kerfhall sawnWithMetal(int x, int y, int slice) {
        Kerfhall mill = millWithThinLogs(2);
        mill.addMetal(0, slice, x, y);
        mill.saw(0);
        return mill;
    }

    private static void promise15Metal() {
        Check.due("metal in the board stops", sawnWithMetal(7, 6, 2).stopped(), 5);
        Check.due("metal in its last column stops", sawnWithMetal(8, 9, 0).stopped(), 5);
        Check.due("metal in the lost column stops", sawnWithMetal(9, 7, 5).stopped(), 5);
        Check.due("metal ahead does not", sawnWithMetal(6, 7, 0).stopped(), 0);
        Check.due("metal beside the wood does not", sawnWithMetal(8, 10, 0).stopped(), 0);
        Check.due("metal behind does not", sawnWithMetal(10, 7, 0).stopped(), 0);
        Kerfhall mill = sawnWithMetal(9, 8, 3);
        Check.due("no board", mill.boards(), 0);
        Check.due("all is chips", leftOf(mill), "72 chips, 0 dust, 0 balance");
        Check.due("wear", mill.wear(), 9);
        Check.refused(mill, "stopped", STATE, () -> mill.saw(1));
        Check.refused(mill, "stopped, and sawn", UNSUPPORTED, () -> mill.saw(0));
        mill.tick(4);
        Check.refused(mill, "stopped still", STATE, () -> mill.saw(1));
        mill.tick(1);
        Check.due("not any more", mill.saw(1), 1);
        Check.due("wear at most 9", mill.wear(), 9);
        Check.due("sound", mill.isSound(), true);
    }

    private static void promise15OneMetalInAFullColumn() {
        Kerfhall mill = new Kerfhall();
        mill.addLog(16, 16, false);
        mill.scan(0, 's');
        int ahead = 0;
        int before = mill.planned(0);
        for (int index = 0; index < before; index++) {
            int x = mill.plannedAt(0, index, 'x');
            ahead += x + mill.plannedAt(0, index, 't') < 7 ? 1 : 0;
        }
        mill.addMetal(0, 3, 7, 0);
        Check.due("boards ahead of a column of wood with one metal", mill.saw(0), ahead);
        Check.due("stopped", mill.stopped(), 5);
    }

    private static void promise15MetalOutsideOfTheBoard() {
        Kerfhall mill = millWithThinLogs(1);
        mill.scan(0, 'm');
        mill.addMetal(0, 0, 7, 7);
        Check.due("the plan goes round the metal", mill.plannedAt(0, 0, 's'), 1);
        Check.due("metal in any slice of a column stops", mill.saw(0), 0);
        Kerfhall second = new Kerfhall();
        second.addLog(8, 8, true);
        second.scan(0, 's');
        second.addMetal(0, 4, 11, 8);
        Check.due("the board ahead is cut", second.saw(0), 1);
        Check.due("its parts", Mills.partsOf(second, 0), "6 3 4 8 0 6");
        Check.due("wear", second.wear(), 9);
        Check.due("all other wood", second.chips() + second.dust() + second.inBoard(0, 'v'), 312);
        Check.due("the wood of the column 9", second.dust(), 48);
        Check.due("balance", second.balance(), second.inBoard(0, 'v'));
    }

    private static void promise15Deviation() {
        Kerfhall mill = millWithThinLogs(8);
        for (int log = 0; log < 7; log++) {
            mill.saw(log);
        }
        Check.due("with a wear of 5", Mills.partsOf(mill, 5), "7 2 6 4 0 6");
        Check.due("with a wear of 6", Mills.partsOf(mill, 6), "7 2 7 4 0 6");
        Check.due("its wood", mill.inBoard(6, 'v'), 36);
        Check.due("its wane", mill.inBoard(6, 'n'), 12);
        Check.due("its grade", mill.gradeOf(6), 2);
        Check.due("left", leftOf(mill), (6 * 12 + 24) + " chips, 84 dust, 48 balance");
        mill.file();
        mill.saw(7);
        Check.due("filed", Mills.partsOf(mill, 7), "7 2 6 4 0 6");
        Check.due("sound", mill.isSound(), true);
    }

    private static void promise15LastRow() {
        Kerfhall mill = millWithThinLogs(2);
        mill.addMetal(0, 0, 7, 7);
        mill.saw(0);
        mill.tick(5);
        mill.addLog(16, 16, false);
        mill.scan(2, 's');
        int count = mill.planned(2);
        StringBuilder due = new StringBuilder();
        for (int index = 0; index < count; index++) {
            int y = mill.plannedAt(2, index, 'y');
            due.append(y + mill.plannedAt(2, index, 'w') == 16 ? y : y + 1).append(' ');
        }
        mill.saw(2);
        StringBuilder cut = new StringBuilder();
        for (int board = 0; board < count; board++) {
            cut.append(mill.partOf(board, 'y')).append(' ');
        }
        Check.due("rows with a worn saw", cut.toString(), due.toString());
        Check.due("a board at the row 15 is there", due.indexOf("0 ") >= 0, true);
    }

    private static void promise15LaterSlices() {
        Kerfhall mill = millWithThinLogs(1);
        mill.scan(0, 'r');
        mill.addRot(0, 0, 1);
        mill.addKnot(0, 5, 7, 7, 2);
        mill.saw(0);
        Check.due("parts", Mills.partsOf(mill, 0), "7 2 6 4 1 4");
        Check.due("left", leftOf(mill), "28 chips, 12 dust, 32 balance");
    }

    /** A board of the columns 13 to 15, or 14 and 15, has no column behind it. */
    private static void promise15LastColumn() {
        Kerfhall mill = new Kerfhall();
        mill.addLog(16, 16, true);
        mill.scan(0, 's');
        mill.setRule(0, 100, 256, true, true);
        mill.setPrice(3, 0, 0);
        int count = mill.saw(0);
        Check.due("boards", count, 5);
        Check.due("the last one", mill.partOf(4, 'x') + mill.partOf(4, 't'), 16);
        int wood = 0;
        for (int board = 0; board < count; board++) {
            Check.due("all rows", Mills.partsOf(mill, board).endsWith(" 2 0 16 0 6"), true);
            wood += mill.inBoard(board, 'v');
        }
        Check.due("four columns are lost, and one is chips", mill.dust() + mill.chips(), mill.volumeOf(0) - wood);
        Check.due("sound", mill.isSound(), true);
        Kerfhall metal = new Kerfhall();
        metal.addLog(16, 16, true);
        metal.scan(0, 's');
        metal.setRule(0, 100, 256, true, true);
        metal.setPrice(3, 0, 0);
        metal.addMetal(0, 5, 15, 8);
        Check.due("metal in the last column", metal.saw(0), 4);
        Check.due("stopped", metal.stopped(), 5);
    }

    private static void promise22OneCellOfRot() {
        Kerfhall mill = millWithThinLogs(1);
        mill.setSweep(0, 0, 2, 2);
        mill.addRot(0, 0, 1);
        mill.setPrice(2, 0, 0);
        mill.saw(0);
        Check.due("parts", Mills.partsOf(mill, 0), "7 3 6 4 0 6");
        Check.due("one cell", mill.inBoard(0, 'r'), 1);
        mill.setRule(2, 100, 20, false, true);
        Check.due("one cell is rot", mill.gradeOf(0), 3);
    }

    private static void promise15CertifiedByWood() {
        Kerfhall mill = millWithThinLogs(1);
        mill.setRule(0, 100, 256, true, true);
        mill.saw(0);
        int wood = 0;
        int wane = 0;
        for (int board = 0; board < mill.boards(); board++) {
            wood += mill.inBoard(board, 'v');
            wane += mill.inBoard(board, 'n');
        }
        Check.due("the balance is of wood alone", mill.balance(), wood);
        Check.due("there is wane", wane > 0, true);
    }

    private static void promise16To18WearFileStopped() {
        Kerfhall mill = millWithThinLogs(10);
        for (int log = 0; log < 10; log++) {
            Check.due("wear", mill.wear(), log);
            mill.saw(log);
        }
        Check.due("wear at most 9", mill.wear(), 9);
        Check.due("wear before the file", mill.file(), 9);
        Check.due("wear behind it", mill.wear(), 0);
        Check.due("filed twice", mill.file(), 0);
        Kerfhall metal = sawnWithMetal(7, 7, 0);
        Check.due("wear before the file", metal.file(), 9);
        Check.due("wear behind it", metal.wear(), 0);
        Check.due("the stop stays", metal.stopped(), 5);
        Check.refused(metal, "stopped", STATE, () -> metal.saw(1));
        for (int left = 4; left >= 0; left--) {
            metal.tick(1);
            Check.due("ticks of the stop", metal.stopped(), left);
        }
        metal.tick(1);
        Check.due("no stop", metal.stopped(), 0);
    }

    private static void promise19And20BoardsPartOf() {
        Kerfhall mill = millWithThinLogs(3);
        Check.refused(mill, "no board", INDEX, () -> mill.partOf(0, 'x'));
        for (int log = 0; log < 3; log++) {
            Check.due("boards", mill.boards(), log);
            mill.saw(log);
        }
        Check.due("boards", mill.boards(), 3);
        Check.due("parts", Mills.partsOf(mill, 2), "7 2 6 4 0 6");
        Check.refused(mill, "board 3, and no such letter", INDEX, () -> mill.partOf(3, 'v'));
        Check.refused(mill, "board -1", INDEX, () -> mill.partOf(-1, 'x'));
        Check.refused(mill, "no such letter", ARGUMENT, () -> mill.partOf(0, 'v'));
        Check.refused(mill, "no such letter", ARGUMENT, () -> mill.partOf(0, 'X'));
    }

    private static void promise21InBoard() {
        Kerfhall mill = millWithThinLogs(1);
        mill.setPrice(2, 0, 0);
        mill.addKnot(0, 1, 7, 7, 2);
        mill.addKnot(0, 2, 7, 7, 1);
        mill.addKnot(0, 3, 9, 9, 4);
        mill.addRot(0, 1, 1);
        mill.addRot(0, 5, 8);
        mill.addKnot(0, 1, 6, 9, 1);
        mill.saw(0);
        // The columns 7 to 9, the rows 6 to 9: 10 cells of wood and 2 of wane in a slice.
        Check.due("parts", Mills.partsOf(mill, 0), "7 3 6 4 0 6");
        Check.due("wood", mill.inBoard(0, 'v'), 60);
        Check.due("wane", mill.inBoard(0, 'n'), 12);
        Check.due("knots of the slice with the most", mill.inBoard(0, 'k'), 4);
        Check.due("rot", mill.inBoard(0, 'r'), 4 + 10);
        Check.refused(mill, "board 1, and no such letter", INDEX, () -> mill.inBoard(1, 'x'));
        Check.refused(mill, "no such letter", ARGUMENT, () -> mill.inBoard(0, 'x'));
        Check.refused(mill, "no such letter", ARGUMENT, () -> mill.inBoard(0, 'w'));
    }

    private static void promise22GradeOf() {
        Kerfhall mill = millWithThinLogs(3);
        mill.addKnot(0, 0, 7, 7, 2);
        mill.addRot(1, 0, 1);
        mill.setWeather(true, false);
        mill.saw(0);
        mill.saw(1);
        mill.tick(11);
        mill.saw(2);
        Check.due("4 knots", mill.gradeOf(0), 1);
        Check.due("rot", mill.gradeOf(1), 2);
        Check.due("stain", mill.gradeOf(2), 1);
        mill.setRule(0, 0, 4, false, true);
        Check.due("knots allowed", mill.gradeOf(0), 0);
        Check.due("rot still", mill.gradeOf(1), 2);
        Check.due("stain allowed", mill.gradeOf(2), 0);
        mill.setRule(2, 30, 20, false, true);
        Check.due("rot refused", mill.gradeOf(1), 3);
        mill.setRule(0, 0, 0, true, false);
        Check.due("rot allowed", mill.gradeOf(1), 0);
        Check.refused(mill, "board 3", INDEX, () -> mill.gradeOf(3));
        Check.refused(mill, "board -1", INDEX, () -> mill.gradeOf(-1));
        mill.tick(50);
        Check.due("a sawn log does not lie", mill.gradeOf(1), 0);
    }

    private static void promise22StainOnlyWhereLogsLie() {
        Kerfhall mill = millWithThinLogs(3);
        mill.setWeather(true, true);
        mill.tick(20);
        mill.setWeather(false, false);
        mill.tick(20);
        mill.setWeather(true, false);
        mill.tick(10);
        mill.saw(0);
        mill.setWeather(true, true);
        mill.tick(5);
        mill.setWeather(true, false);
        mill.tick(1);
        mill.saw(1);
        Check.due("10 ticks", mill.gradeOf(0), 0);
        Check.due("11 ticks", mill.gradeOf(1), 1);
    }

    private static void promise23And24StateOfLogOf() {
        Kerfhall mill = millWithThinLogs(2);
        mill.saw(1);
        mill.saw(0);
        Check.due("log", mill.logOf(0), 1);
        Check.due("log", mill.logOf(1), 0);
        Check.due("queue", mill.stateOf(0), 'q');
        mill.tick(1);
        Check.due("bin", mill.stateOf(0), 'b');
        Check.due("the next one", mill.stateOf(1), 'q');
        mill.charge(0);
        Check.due("kiln", mill.stateOf(0), 'k');
        mill.setStep(0, 9);
        mill.tick(5);
        mill.empty();
        Check.due("yard", mill.stateOf(0), 'y');
        mill.addOrder(2, 3, 6, 0, 1, false);
        mill.deliver(0);
        Check.due("delivered", mill.stateOf(0), 'd');
        Check.refused(mill, "state of board 2", INDEX, () -> mill.stateOf(2));
        Check.refused(mill, "state of board -1", INDEX, () -> mill.stateOf(-1));
        Check.refused(mill, "log of board 2", INDEX, () -> mill.logOf(2));
        Check.refused(mill, "log of board -1", INDEX, () -> mill.logOf(-1));
    }

    private static void promise25Trim() {
        Kerfhall mill = millWithThinLogs(1);
        mill.addRot(0, 0, 1);
        mill.addKnot(0, 5, 7, 7, 2);
        mill.saw(0);
        Check.due("grade", mill.gradeOf(0), 2);
        Check.due("nothing goes", mill.trim(0, 0, 6), 0);
        Check.due("the first slice goes", mill.trim(0, 1, 5), 8);
        Check.due("grade without the rot", mill.gradeOf(0), 1);
        Check.due("left", leftOf(mill), "20 chips, 12 dust, 48 balance");
        Check.due("the last slices go", mill.trim(0, 1, 3), 16);
        Check.due("grade without the knots", mill.gradeOf(0), 0);
        Check.due("parts", Mills.partsOf(mill, 0), "7 2 6 4 1 3");
        Check.due("wood", mill.inBoard(0, 'v'), 24);
        Check.refused(mill, "one slice", ARGUMENT, () -> mill.trim(0, 1, 1));
        Check.refused(mill, "ahead of the board", ARGUMENT, () -> mill.trim(0, 0, 3));
        Check.refused(mill, "behind the board", ARGUMENT, () -> mill.trim(0, 3, 2));
        Check.refused(mill, "too long", ARGUMENT, () -> mill.trim(0, 1, 4));
        Check.refused(mill, "greatest first", ARGUMENT, () -> mill.trim(0, Integer.MAX_VALUE, 2));
        Check.refused(mill, "greatest length", ARGUMENT, () -> mill.trim(0, 1, Integer.MAX_VALUE));
        Check.refused(mill, "board 1, and nothing of it", INDEX, () -> mill.trim(1, 0, 0));
        Check.due("two slices stay", mill.trim(0, 2, 2), 8);
        Check.due("sound", mill.isSound(), true);
    }

    private static void promise25Wane() {
        Kerfhall mill = millWithThinLogs(1);
        mill.setPrice(2, 0, 0);
        mill.saw(0);
        Check.due("wane is not chips", mill.trim(0, 0, 5), 10);
        Check.due("wane does not go to the rip's dust", mill.rip(0, 7, 3), 10);
        Check.due("sound", mill.isSound(), true);
    }

    private static void promise26Rip() {
        Kerfhall mill = new Kerfhall();
        mill.addLog(8, 8, false);
        mill.scan(0, 's');
        mill.setSweep(0, 0, 0, 2);
        mill.saw(0);
        Check.due("parts", Mills.partsOf(mill, 0), "6 3 4 8 0 6");
        // All of it is wood, but for the rows 4 and 5 in the slice 0.
        int chips = mill.chips();
        int dust = mill.dust();
        Check.due("nothing goes", mill.rip(0, 4, 8), 0);
        Check.due("two rows to dust", mill.rip(0, 5, 6), 5 * 3 + 6 * 3);
        Check.due("dust", mill.dust(), dust + 33);
        Check.due("chips", mill.chips(), chips);
        Check.due("a row to dust, two to chips", mill.rip(0, 5, 3), 18);
        Check.due("dust", mill.dust(), dust + 51);
        Check.due("chips", mill.chips(), chips + 36);
        Check.due("parts", Mills.partsOf(mill, 0), "6 3 5 3 0 6");
        Check.refused(mill, "two rows", ARGUMENT, () -> mill.rip(0, 5, 2));
        Check.refused(mill, "ahead of the board", ARGUMENT, () -> mill.rip(0, 4, 3));
        Check.refused(mill, "behind the board", ARGUMENT, () -> mill.rip(0, 6, 3));
        Check.refused(mill, "greatest row", ARGUMENT, () -> mill.rip(0, Integer.MAX_VALUE, 3));
        Check.refused(mill, "greatest width", ARGUMENT, () -> mill.rip(0, 5, Integer.MAX_VALUE));
        Check.refused(mill, "board 2, and nothing of it", INDEX, () -> mill.rip(2, 0, 0));
        Check.due("sound", mill.isSound(), true);
    }

    private static void cuttingWhereItMay() {
        Kerfhall mill = millWithThinLogs(1);
        mill.saw(0);
        mill.trim(0, 0, 5);
        mill.tick(1);
        mill.trim(0, 0, 4);
        mill.setRule(0, 0, 0, true, true);
        Check.due("the class of the bin stays", mill.classOf(0), 20);
        mill.charge(0);
        Check.refused(mill, "trim in the kiln", UNSUPPORTED, () -> mill.trim(0, 0, 3));
        Check.refused(mill, "rip in the kiln", UNSUPPORTED, () -> mill.rip(0, 6, 3));
        Check.refused(mill, "wrong trim in the kiln", ARGUMENT, () -> mill.trim(0, 0, 5));
        Check.refused(mill, "wrong rip in the kiln", ARGUMENT, () -> mill.rip(0, 5, 4));
        mill.setStep(0, 9);
        mill.tick(5);
        mill.empty();
        Check.due("trim in the yard", mill.trim(0, 0, 3), 8);
        Check.due("rip in the yard", mill.rip(0, 6, 3), 6);
        mill.addOrder(2, 3, 3, 0, 1, false);
        mill.deliver(0);
        Check.refused(mill, "trim of a delivered one", UNSUPPORTED, () -> mill.trim(0, 0, 2));
        Check.refused(mill, "rip of a delivered one", UNSUPPORTED, () -> mill.rip(0, 6, 3));
        Check.due("the balance does not hear of it", mill.balance(), 48);
        Check.due("sound", mill.isSound(), true);
    }

    public static void main(String[] args) {
        promise15Saw();
        promise15WithoutBoards();
        promise15Metal();
        promise15OneMetalInAFullColumn();
        promise15MetalOutsideOfTheBoard();
        promise15Deviation();
        promise15LastRow();
        promise15LaterSlices();
        promise15LastColumn();
        promise15CertifiedByWood();
        promise16To18WearFileStopped();
        promise19And20BoardsPartOf();
        promise21InBoard();
        promise22GradeOf();
        promise22OneCellOfRot();
        promise22StainOnlyWhereLogsLie();
        promise23And24StateOfLogOf();
        promise25Trim();
        promise25Wane();
        promise26Rip();
        cuttingWhereItMay();
        Check.end("SawTest");
    }
}
