/** The boundary cases that the document's words on sawing and cutting again name, a test for each sentence. */
public final class SawEdgeTest {
    private static final Class<IllegalArgumentException> ARGUMENT = IllegalArgumentException.class;
    private static final Class<UnsupportedOperationException> UNSUPPORTED = UnsupportedOperationException.class;
    private static final Class<IllegalStateException> STATE = IllegalStateException.class;

    private SawEdgeTest() {
    }

    private static String leftOf(Kerfhall mill) {
        return mill.chips() + " chips, " + mill.dust() + " dust";
    }

    /** "A log that was scanned by 's' or 'l' is sawn by its plan", and by no other scan. */
    private static void scannedLogsAreSawn() {
        for (String scans : new String[] {"", "r", "m", "rm"}) {
            Kerfhall mill = Mills.ofLogs(1, 4, scans);
            Check.refused(mill, "scanned by '" + scans + "'", UNSUPPORTED, () -> mill.saw(0));
        }
        for (String scans : new String[] {"s", "l", "sl", "rs", "ml"}) {
            Check.due("scanned by '" + scans + "'", Mills.ofLogs(1, 4, scans).saw(0), 1);
        }
    }

    /** "If the wear of the saw is 6 or more, each board is cut with a y greater by 1." */
    private static void deviatesFromAWearOfSix() {
        Kerfhall mill = Mills.ofLogs(10, 4, "s");
        for (int log = 0; log < 10; log++) {
            Check.due("wear", mill.wear(), log);
            mill.saw(log);
            Check.due("row by a wear of " + log, mill.partOf(log, 'y'), log < 6 ? 6 : 7);
            Check.due("width by a wear of " + log, mill.partOf(log, 'w'), 4);
            Check.due("wood by a wear of " + log, mill.inBoard(log, 'v'), log < 6 ? 48 : 36);
        }
        Check.due("all of it", leftOf(mill), (6 * 12 + 4 * 24) + " chips, 120 dust");
    }

    /** "If it is not at the row 15 with its last row." */
    private static void staysAtTheLastRow() {
        int[][] rows = {{13, 15, 13}, {12, 14, 13}, {12, 15, 12}, {11, 14, 12}, {0, 2, 1}, {0, 15, 0}, {0, 14, 1}};
        for (int[] row : rows) {
            Kerfhall mill = new Kerfhall();
            Mills.wearOut(mill);
            int log = Mills.addPart(mill, 7, 8, row[0], row[1]);
            Check.due("planned row", mill.plannedAt(log, 0, 'y'), row[0]);
            Check.due("one board", mill.saw(log), 1);
            Check.due("row it is cut at", mill.partOf(0, 'y'), row[2]);
            Check.due("its width", mill.partOf(0, 'w'), row[1] - row[0] + 1);
            Check.due("its knots by the log there", mill.inBoard(0, 'k'), row[0] == row[2] ? 0 : 2);
            Check.due("sound", mill.isSound(), true);
        }
    }

    /** A log of the diameter 8, which is planned as columns 6 to 8 and columns 10 and 11, with metal in a column. */
    private static String sawnWithMetal(int column) {
        Kerfhall mill = Mills.ofLogs(1, 8, "s");
        boolean isWood = mill.addMetal(0, 2, column, column == 4 || column == 11 ? 7 : 5);
        int boards = mill.saw(0);
        return isWood + " " + boards + " " + mill.stopped() + " " + mill.wear() + " " + mill.dust();
    }

    /** "If there is metal in a column of a board, or in the one lost behind it, the saw stops ahead of this board." */
    private static void metalInEachColumn() {
        Check.due("plan", Mills.planOf(Mills.ofLogs(1, 8, "s"), 0), "2208 | 6 3 4 8 0 6 | 10 2 6 4 0 6");
        Check.due("column 3 has no wood", sawnWithMetal(3), "false 2 0 1 48");
        Check.due("column 5, ahead of the boards", sawnWithMetal(5), "true 2 0 1 48");
        Check.due("the first board's first column", sawnWithMetal(6), "true 0 5 9 0");
        Check.due("the first board's second column", sawnWithMetal(7), "true 0 5 9 0");
        Check.due("the first board's last column", sawnWithMetal(8), "true 0 5 9 0");
        Check.due("the column lost behind it", sawnWithMetal(9), "true 0 5 9 0");
        Check.due("the second board's first column", sawnWithMetal(10), "true 1 5 9 48");
        Check.due("the second board's last column", sawnWithMetal(11), "true 1 5 9 48");
        Check.due("column 12 has no wood", sawnWithMetal(12), "false 2 0 1 48");
    }

    /** "In any row and slice": also where the board is not. */
    private static void metalInAnyRowAndSlice() {
        for (int slice = 0; slice < 6; slice++) {
            for (int y : new int[] {0, 6, 8, 15}) {
                Kerfhall mill = new Kerfhall();
                int log = Mills.addPart(mill, 7, 8, 7, 9);
                for (int other = 3; other < 6; other++) {
                    Mills.spoil(mill, log, other, 7, 8, 7, 9);
                }
                Check.due("plan", Mills.planOf(mill, 0), "180 | 7 2 7 3 0 3");
                mill.addMetal(0, slice, 9, y);
                Check.due("boards with metal in the row " + y + " of slice " + slice, mill.saw(0), 0);
                Check.due("stopped", mill.stopped(), 5);
            }
        }
        Kerfhall behind = new Kerfhall();
        Mills.addPart(behind, 7, 8, 7, 9);
        behind.addMetal(0, 0, 10, 8);
        behind.addMetal(0, 0, 6, 8);
        Check.due("metal behind the lost column and ahead of the board", behind.saw(0), 1);
    }

    /** "Its wear becomes 9, and it cannot saw for the next 5 ticks." "A stop stays" when the saw is filed. */
    private static void stopsForFiveTicks() {
        Kerfhall mill = Mills.ofLogs(4, 4, "s");
        mill.addMetal(0, 0, 7, 7);
        mill.addMetal(1, 0, 7, 7);
        Check.due("no stop at first", mill.stopped(), 0);
        Check.due("no boards", mill.saw(0), 0);
        Check.due("wear before it is filed", mill.file(), 9);
        for (int left = 5; left > 0; left--) {
            Check.due("stopped", mill.stopped(), left);
            Check.refused(mill, "stopped", STATE, () -> mill.saw(2));
            mill.tick(1);
        }
        Check.due("stopped", mill.stopped(), 0);
        Check.due("a board", mill.saw(2), 1);
        Check.due("wear", mill.wear(), 1);
        mill.tick(50);
        Check.due("not below 0", mill.stopped(), 0);
        mill.saw(1);
        Check.due("stopped again", mill.stopped(), 5);
        Check.due("wear again", mill.wear(), 9);
        mill.tick(50);
        Check.due("long ago", mill.stopped(), 0);
        mill.saw(3);
        Check.due("wear at most 9", mill.wear(), 9);
    }

    /** "Then the wear is 1 greater, at most 9, if it was not stopped", also if no board was cut. */
    private static void wearGrows() {
        Kerfhall mill = Mills.ofLogs(10, 4, "s");
        Mills.setPrices(mill, 0, 0);
        Check.due("no wear at first", mill.wear(), 0);
        Check.due("nothing to file", mill.file(), 0);
        for (int log = 0; log < 10; log++) {
            mill.saw(log);
            Check.due("wear", mill.wear(), Math.min(9, log + 1));
        }
        Check.due("wear before", mill.file(), 9);
        Check.due("wear behind", mill.wear(), 0);
    }

    /** "The wood of the column that is lost becomes dust", none behind the last column. "The rest is chips." */
    private static void nothingIsLostBehindTheLastColumn() {
        Kerfhall mill = new Kerfhall();
        Mills.addPart(mill, 14, 15, 5, 10);
        Check.due("one board", mill.saw(0), 1);
        Check.due("at the last columns", Mills.partsOf(mill, 0), "14 2 5 6 0 6");
        Check.due("left", leftOf(mill), (mill.volumeOf(0) - 72) + " chips, 0 dust");
        Kerfhall three = new Kerfhall();
        Mills.addPart(three, 13, 15, 5, 10);
        three.saw(0);
        Check.due("three columns", Mills.partsOf(three, 0), "13 3 5 6 0 6");
        Check.due("left", leftOf(three), (three.volumeOf(0) - 108) + " chips, 0 dust");
        Kerfhall ahead = new Kerfhall();
        Mills.addPart(ahead, 13, 14, 5, 10);
        ahead.saw(0);
        // The column 15 has wood in the rows 5 to 10.
        Check.due("left", leftOf(ahead), (ahead.volumeOf(0) - 72 - 36) + " chips, 36 dust");
        Kerfhall first = new Kerfhall();
        Mills.addPart(first, 0, 1, 5, 10);
        first.saw(0);
        Check.due("the first columns", Mills.partsOf(first, 0), "0 2 5 6 0 6");
    }

    /** "What is not in a board or dust is chips in the end": all of a log without boards. */
    private static void allIsChipsWithoutBoards() {
        Kerfhall mill = Mills.ofLogs(2, 4, "s");
        mill.addMetal(1, 5, 8, 9);
        Mills.setPrices(mill, 0, 0);
        Check.due("no boards", mill.saw(0), 0);
        Check.due("left", leftOf(mill), "72 chips, 0 dust");
        Mills.setPrices(mill, 10, 0);
        Check.due("metal in the first board", mill.saw(1), 0);
        Check.due("left", leftOf(mill), "144 chips, 0 dust");
        Check.due("boards", mill.boards(), 0);
        Check.due("queue", mill.queue(), 0);
        Check.due("sound", mill.isSound(), true);
    }

    /** "Their volume of wood counts for the balance, if the log is certified": without wane, dust and chips. */
    private static void balanceOfCertifiedLogs() {
        for (boolean isCertified : new boolean[] {false, true}) {
            Kerfhall mill = new Kerfhall();
            Mills.addLog(mill, 4, isCertified, "s");
            mill.setSweep(0, 0, 1, 1);
            mill.setSweep(0, 5, 2, 2);
            mill.saw(0);
            Check.due("wood", mill.inBoard(0, 'v'), 48 - 3 - 7);
            Check.due("balance", mill.balance(), isCertified ? 38 : 0);
            mill.trim(0, 0, 2);
            mill.rip(0, 6, 3);
            Check.due("balance when it is cut again", mill.balance(), isCertified ? 38 : 0);
        }
        Kerfhall stopped = new Kerfhall();
        Mills.addLog(stopped, 8, true, "s");
        stopped.addMetal(0, 0, 10, 8);
        Check.due("one board ahead of the metal", stopped.saw(0), 1);
        Check.due("balance of it alone", stopped.balance(), 144);
    }

    /** "Boards are numbered from 0 as they are cut": by rising columns, whatever the log's number. */
    private static void boardsAreNumbered() {
        Kerfhall mill = Mills.ofLogs(3, 8, "s");
        for (int log = 2; log >= 0; log--) {
            Check.due("two boards", mill.saw(log), 2);
            Check.due("boards", mill.boards(), 6 - 2 * log);
            Check.due("in the queue", mill.queue(), 6 - 2 * log);
            Check.due("the first", mill.partOf(4 - 2 * log, 'x'), 6);
            Check.due("the second", mill.partOf(5 - 2 * log, 'x'), 10);
            Check.due("log of the first", mill.logOf(4 - 2 * log), log);
            Check.due("log of the second", mill.logOf(5 - 2 * log), log);
        }
        Check.due("states", Mills.statesOf(mill), "qqqqqq");
    }

    /** "Trimmed to some of its slices, the others becoming chips": each first one and length. */
    private static void trimsToEachLength() {
        for (int length = 2; length <= 6; length++) {
            for (int first = 0; first + length <= 6; first++) {
                Kerfhall mill = Mills.ofBoards(1);
                Check.due("chips", mill.trim(0, first, length), 8 * (6 - length));
                Check.due("left", leftOf(mill), (12 + 8 * (6 - length)) + " chips, 12 dust");
                Check.due("parts", Mills.partsOf(mill, 0), "7 2 6 4 " + first + " " + length);
                Check.due("wood", mill.inBoard(0, 'v'), 8 * length);
                Check.due("share", mill.yieldShare(), 8f * length / 72f);
                Check.due("sound", mill.isSound(), true);
            }
        }
    }

    /** "Fewer than 2" slices, or "not all in the board": the slices are those of the log, and only what is left. */
    private static void trimsOfWhatIsLeft() {
        Kerfhall mill = Mills.ofBoards(1);
        mill.trim(0, 2, 3);
        Check.due("all that is left", mill.trim(0, 2, 3), 0);
        Check.refused(mill, "one slice", ARGUMENT, () -> mill.trim(0, 3, 1));
        Check.refused(mill, "no slice", ARGUMENT, () -> mill.trim(0, 3, 0));
        Check.refused(mill, "ahead", ARGUMENT, () -> mill.trim(0, 1, 2));
        Check.refused(mill, "ahead and behind", ARGUMENT, () -> mill.trim(0, 1, 5));
        Check.refused(mill, "behind", ARGUMENT, () -> mill.trim(0, 4, 2));
        Check.refused(mill, "as counted from the board's first", ARGUMENT, () -> mill.trim(0, 0, 2));
        int most = Integer.MAX_VALUE;
        Check.refused(mill, "a sum that wraps round", ARGUMENT, () -> mill.trim(0, most, most));
        Check.refused(mill, "a sum that wraps round to the last", ARGUMENT, () -> mill.trim(0, most, 6 - most));
        Check.due("the first two", mill.trim(0, 2, 2), 8);
        Check.due("the two that are left", mill.trim(0, 2, 2), 0);
    }

    /** "Of the others, the wood of those next to the ones that stay becomes dust, that of the rest chips." */
    private static void ripsToEachWidth() {
        for (int width = 3; width <= 8; width++) {
            for (int low = 4; low + width <= 12; low++) {
                Kerfhall mill = Mills.ofLogs(1, 8, "s");
                mill.saw(0);
                int chips = mill.chips();
                int dust = mill.dust();
                int next = (low > 4 ? 1 : 0) + (low + width < 12 ? 1 : 0);
                Check.due("dust of " + low + " and " + width, mill.rip(0, low, width), 18 * next);
                Check.due("dust", mill.dust(), dust + 18 * next);
                Check.due("chips", mill.chips(), chips + 18 * (8 - width - next));
                Check.due("parts", Mills.partsOf(mill, 0), "6 3 " + low + " " + width + " 0 6");
                Check.due("wood", mill.inBoard(0, 'v'), 18 * width);
                Check.due("sound", mill.isSound(), true);
            }
        }
    }

    /** "Fewer than 3" rows, or "not all in the board": the rows are those of the log, and only what is left. */
    private static void ripsOfWhatIsLeft() {
        Kerfhall mill = Mills.ofLogs(1, 8, "s");
        mill.saw(0);
        mill.rip(0, 5, 5);
        Check.due("all that is left", mill.rip(0, 5, 5), 0);
        Check.refused(mill, "two rows", ARGUMENT, () -> mill.rip(0, 5, 2));
        Check.refused(mill, "no rows", ARGUMENT, () -> mill.rip(0, 5, 0));
        Check.refused(mill, "below", ARGUMENT, () -> mill.rip(0, 4, 3));
        Check.refused(mill, "above", ARGUMENT, () -> mill.rip(0, 8, 3));
        Check.refused(mill, "below and above", ARGUMENT, () -> mill.rip(0, 4, 7));
        Check.refused(mill, "as counted from the board's first", ARGUMENT, () -> mill.rip(0, 0, 3));
        int most = Integer.MAX_VALUE;
        Check.refused(mill, "a sum that wraps round", ARGUMENT, () -> mill.rip(0, most, most));
        Check.refused(mill, "a sum that wraps round to a row", ARGUMENT, () -> mill.rip(0, 5, most - 3));
        Check.due("the last three", mill.rip(0, 7, 3), 18);
        Check.due("the three that are left", mill.rip(0, 7, 3), 0);
    }

    /** A board from the row 0 to the row 15 has no rows beside it; "the wood", not the wane, becomes dust or chips. */
    private static void ripsAtTheEdgesOfTheLog() {
        Kerfhall mill = Mills.ofLogs(1, 16, "s");
        mill.setRule(0, 100, 0, true, true);
        Mills.setPrices(mill, 10, 0);
        mill.saw(0);
        Check.due("the middle board", Mills.partsOf(mill, 2), "8 2 0 16 0 6");
        Check.due("all rows", mill.rip(2, 0, 16), 0);
        Check.due("all but the last row", mill.rip(2, 0, 15), 12);
        Check.due("all but the first row", mill.rip(2, 1, 14), 12);
        Check.due("the last board", Mills.partsOf(mill, 4), "14 2 0 16 0 6");
        // Its column 14 has wood in the rows 3 to 12, its column 15 in the rows 5 to 10.
        int chips = mill.chips();
        Check.due("no wood below or above", mill.rip(4, 3, 10), 0);
        Check.due("wood of one column, below and above", mill.rip(4, 4, 8), 12);
        Check.due("wood of both columns, below", mill.rip(4, 6, 6), 12);
        Check.due("the wood of the rest", mill.chips() - chips, 6);
        Check.due("sound", mill.isSound(), true);
    }

    /** "A board that is in the queue, a bin or the yard can be trimmed ... or ripped", not in the kiln or delivered. */
    private static void cutAgainWhereItIs() {
        Kerfhall mill = Mills.ofBoards(1);
        Mills.feedKiln(mill, 1);
        Check.due("queue", mill.trim(0, 0, 5), 8);
        Check.due("queue", mill.rip(0, 6, 4), 0);
        mill.tick(1);
        Check.due("bin", mill.trim(0, 0, 4), 8);
        Check.due("bin", mill.rip(0, 6, 4), 0);
        mill.charge(0);
        Check.refused(mill, "kiln", UNSUPPORTED, () -> mill.trim(0, 0, 3));
        Check.refused(mill, "kiln", UNSUPPORTED, () -> mill.rip(0, 6, 3));
        mill.setStep(0, 9);
        mill.tick(5);
        mill.empty();
        Check.due("yard", mill.trim(0, 0, 3), 8);
        Check.due("yard", mill.rip(0, 6, 3), 6);
        Check.due("moisture", mill.moisture(0), 15);
        Check.due("checks", mill.hasChecks(0), true);
        mill.addOrder(2, 3, 3, 0, 1, false);
        mill.deliver(0);
        Check.refused(mill, "delivered", UNSUPPORTED, () -> mill.trim(0, 0, 2));
        Check.refused(mill, "delivered", UNSUPPORTED, () -> mill.rip(0, 6, 3));
    }

    /** "What is true of it then is as of its log." */
    private static void whatIsTrueThen() {
        Kerfhall mill = Mills.ofLogs(1, 4, "s");
        mill.addKnot(0, 0, 7, 8, 2);
        mill.addKnot(0, 1, 7, 9, 1);
        mill.addRot(0, 5, 1);
        mill.setSweep(0, 4, 0, 1);
        mill.saw(0);
        Check.due("at first", contentOf(mill), "46 2 4 4 2");
        mill.trim(0, 0, 5);
        Check.due("without the rot", contentOf(mill), "38 2 4 0 1");
        mill.trim(0, 1, 4);
        Check.due("without the knots of slice 0", contentOf(mill), "30 2 1 0 1");
        mill.rip(0, 7, 3);
        Check.due("without the wane", contentOf(mill), "24 0 1 0 0");
        mill.trim(0, 2, 3);
        Check.due("without the knot", contentOf(mill), "18 0 0 0 0");
    }

    private static String contentOf(Kerfhall mill) {
        StringBuilder all = new StringBuilder();
        for (char what : "vnkr".toCharArray()) {
            all.append(mill.inBoard(0, what)).append(' ');
        }
        return all.append(mill.gradeOf(0)).toString();
    }

    /** "Sawn by its plan", which does not know of what was not scanned. */
    private static void sawnByItsPlan() {
        Kerfhall mill = Mills.ofLogs(2, 4, "s");
        for (int slice = 0; slice < 6; slice++) {
            mill.setSweep(0, slice, 2, 2);
            mill.addKnot(1, slice, 7, 7, 2);
        }
        mill.saw(0);
        mill.saw(1);
        Check.due("without the sweep", Mills.partsOf(mill, 0), "7 2 6 4 0 6");
        Check.due("its wood", mill.inBoard(0, 'v'), 6);
        Check.due("its wane", mill.inBoard(0, 'n'), 42);
        Check.due("its grade", mill.gradeOf(0), 3);
        Check.due("without the knots", mill.inBoard(1, 'k'), 4);
        Check.due("sound", mill.isSound(), true);
    }

    public static void main(String[] args) {
        scannedLogsAreSawn();
        deviatesFromAWearOfSix();
        staysAtTheLastRow();
        metalInEachColumn();
        metalInAnyRowAndSlice();
        stopsForFiveTicks();
        wearGrows();
        nothingIsLostBehindTheLastColumn();
        allIsChipsWithoutBoards();
        balanceOfCertifiedLogs();
        boardsAreNumbered();
        trimsToEachLength();
        trimsOfWhatIsLeft();
        ripsToEachWidth();
        ripsOfWhatIsLeft();
        ripsAtTheEdgesOfTheLog();
        cutAgainWhereItIs();
        whatIsTrueThen();
        sawnByItsPlan();
        Check.end("SawEdgeTest");
    }
}
