/** Mills at which the tests begin. */
final class Mills {
    private Mills() {
    }

    /** Uncertified logs that are as thick at both ends, each with these scans. */
    static Kerfhall ofLogs(int count, int diameter, String scans) {
        Kerfhall mill = new Kerfhall();
        for (int log = 0; log < count; log++) {
            addLog(mill, diameter, false, scans);
        }
        return mill;
    }

    static int addLog(Kerfhall mill, int diameter, boolean isCertified, String scans) {
        int log = mill.addLog(diameter, diameter, isCertified);
        for (char kind : scans.toCharArray()) {
            mill.scan(log, kind);
        }
        return log;
    }

    /**
     * Boards in the queue, each of a log of the diameter 4 and with the same number: columns 7 and 8, rows 6 to 9, all
     * slices, which are 48 cells of wood. Each log leaves 12 chips and 12 cells of dust.
     */
    static Kerfhall ofBoards(int count) {
        Kerfhall mill = ofLogs(count, 4, "s");
        for (int log = 0; log < count; log++) {
            mill.saw(log);
            mill.file();
        }
        return mill;
    }

    /** As ofBoards(), but each board has rot in its first slice, so that gradeRot() says of which grade they are. */
    static Kerfhall ofRottenBoards(int count) {
        Kerfhall mill = ofLogs(count, 4, "s");
        for (int log = 0; log < count; log++) {
            mill.addRot(log, 0, 1);
            mill.saw(log);
            mill.file();
        }
        return mill;
    }

    /** Makes boards with rot, but without knots, wane and checks, be of this grade. */
    static void gradeRot(Kerfhall mill, int grade) {
        for (int rule = 0; rule < 3; rule++) {
            mill.setRule(rule, 0, 0, rule == grade, true);
        }
    }

    /** Boards 0 to 3 in the bins of their numbers, with the classes 20 to 23, and board 4 in the queue. */
    static Kerfhall ofBins() {
        Kerfhall mill = ofRottenBoards(5);
        for (int grade = 0; grade <= 3; grade++) {
            gradeRot(mill, grade);
            mill.tick(1);
        }
        return mill;
    }

    /** Boards of ofBoards(), six at most, which are in the yard with a moisture of 15, and have checks. */
    static Kerfhall ofYard(int count) {
        Kerfhall mill = ofBoards(count);
        feedKiln(mill, count);
        mill.tick(count);
        mill.charge(0);
        mill.setStep(0, 9);
        mill.tick(5);
        mill.empty();
        return mill;
    }

    /** Makes a log all chips, for the heat, and leaves prices as they are at first. */
    static void feedKiln(Kerfhall mill, int log) {
        addLog(mill, 16, false, "s");
        setPrices(mill, 0, 0);
        mill.saw(log);
        mill.file();
        for (int grade = 0; grade < 3; grade++) {
            mill.setPrice(2, grade, new int[] {10, 5, 2}[grade]);
            mill.setPrice(3, grade, new int[] {12, 6, 3}[grade]);
        }
    }

    /**
     * A log of the diameter 16 of which only a part, in some slices, is good for boards: all others have knots, which
     * no rule allows, nor any wane. A board is of the grade 0, or with rot of the grade 1.
     */
    static Kerfhall ofPart(int fromX, int toX, int fromY, int toY, int fromSlice, int toSlice) {
        Kerfhall mill = new Kerfhall();
        addPart(mill, fromX, toX, fromY, toY);
        for (int slice = 0; slice < 6; slice++) {
            if (slice < fromSlice || slice > toSlice) {
                spoil(mill, 0, slice, fromX, toX, fromY, toY);
            }
        }
        return mill;
    }

    /** Adds such a log, of which the part is good in all slices. */
    static int addPart(Kerfhall mill, int fromX, int toX, int fromY, int toY) {
        int log = addLog(mill, 16, true, "slrm");
        for (int grade = 0; grade < 3; grade++) {
            mill.setRule(grade, 0, 0, grade == 1, true);
        }
        for (int slice = 0; slice < 6; slice++) {
            spoil(mill, log, slice, 0, fromX - 1, 0, 15);
            spoil(mill, log, slice, toX + 1, 15, 0, 15);
            spoil(mill, log, slice, fromX, toX, 0, fromY - 1);
            spoil(mill, log, slice, fromX, toX, toY + 1, 15);
        }
        return log;
    }

    /** Knots in all cells of a part of a slice, if it has any. */
    static void spoil(Kerfhall mill, int log, int slice, int fromX, int toX, int fromY, int toY) {
        int size = Math.min(4, Math.min(toX - fromX + 1, toY - fromY + 1));
        for (int x = fromX; size > 0 && x <= toX; x += size) {
            for (int y = fromY; y <= toY; y += size) {
                mill.addKnot(log, slice, Math.min(x, toX + 1 - size), Math.min(y, toY + 1 - size), size);
            }
        }
    }

    /** Lets metal in a new log of the diameter 4 stop the saw, and the stop go by: the saw's wear is 9 then. */
    static void wearOut(Kerfhall mill) {
        int log = addLog(mill, 4, false, "s");
        mill.addMetal(log, 0, 7, 7);
        mill.saw(log);
        mill.tick(5);
    }

    static void setPrices(Kerfhall mill, int ofTwo, int ofThree) {
        for (int grade = 0; grade < 3; grade++) {
            mill.setPrice(2, grade, ofTwo);
            mill.setPrice(3, grade, ofThree);
        }
    }

    static String partsOf(Kerfhall mill, int board) {
        StringBuilder all = new StringBuilder();
        for (char what : "xtywsl".toCharArray()) {
            all.append(mill.partOf(board, what)).append(' ');
        }
        return all.toString().trim();
    }

    /** What a plan is worth, and x, thickness, y, width, s and length of each board of it. */
    static String planOf(Kerfhall mill, int log) {
        StringBuilder all = new StringBuilder();
        all.append(mill.plan(log));
        for (int index = 0; index < mill.planned(log); index++) {
            all.append(" |");
            for (char what : "xtywsl".toCharArray()) {
                all.append(' ').append(mill.plannedAt(log, index, what));
            }
        }
        return all.toString();
    }

    static String statesOf(Kerfhall mill) {
        StringBuilder all = new StringBuilder();
        for (int board = 0; board < mill.boards(); board++) {
            all.append(mill.stateOf(board));
        }
        return all.toString();
    }

    static String binsOf(Kerfhall mill) {
        StringBuilder all = new StringBuilder();
        for (int bin = 0; bin < 4; bin++) {
            all.append(mill.inBin(bin));
            if (mill.inBin(bin) > 0) {
                all.append(" of ").append(mill.classOf(bin));
            }
            all.append(", ");
        }
        return all.append(mill.queue()).append(" wait").toString();
    }

    static String heatOf(Kerfhall mill) {
        return mill.dust() + " dust, " + mill.chips() + " chips, " + mill.burnt() + " burnt";
    }

    /** How many cells of a slice of this diameter have wood, reckoned as the document has it. */
    static int woodOf(int diameter, int dx, int dy) {
        int count = 0;
        for (int x = 0; x < 16; x++) {
            for (int y = 0; y < 16; y++) {
                int a = 2 * (x - 8 - dx) + 1;
                int b = 2 * (y - 8 - dy) + 1;
                count += a * a + b * b <= diameter * diameter ? 1 : 0;
            }
        }
        return count;
    }
}
