/** The boundary cases that the document's words on logs and scanners name, a test for each sentence. */
public final class LogEdgeTest {
    private static final Class<IndexOutOfBoundsException> INDEX = IndexOutOfBoundsException.class;
    private static final Class<IllegalStateException> STATE = IllegalStateException.class;

    private LogEdgeTest() {
    }

    /** "At most 10 logs are numbered from 0." */
    private static void logsAreNumbered() {
        Kerfhall mill = new Kerfhall();
        for (int log = 0; log < 10; log++) {
            int next = log;
            Check.refused(mill, "log " + log + " is not there yet", INDEX, () -> mill.volumeOf(next));
            Check.due("number", mill.addLog(16 - log, 4, false), log);
            Check.due("all of them lie", mill.setWeather(false, false), log + 1);
            Check.due("its own volume", mill.volumeOf(log) > mill.volumeOf(0) - 1, log == 0);
        }
        Check.refused(mill, "an eleventh log", STATE, () -> mill.addLog(4, 4, false));
        Check.refused(mill, "log 10", INDEX, () -> mill.volumeOf(10));
    }

    private static int[] diametersOf(int butt, int top) {
        Kerfhall mill = new Kerfhall();
        mill.addLog(butt, top, false);
        int[] found = new int[6];
        for (int slice = 0; slice < 6; slice++) {
            int wood = mill.setSweep(0, slice, 0, 0);
            for (int diameter = 4; diameter <= 16; diameter++) {
                found[slice] = wood == Mills.woodOf(diameter, 0, 0) ? diameter : found[slice];
            }
        }
        return found;
    }

    private static String textOf(int[] numbers) {
        StringBuilder all = new StringBuilder();
        for (int number : numbers) {
            all.append(number).append(' ');
        }
        return all.toString().trim();
    }

    /**
     * "That of the slice s is that of the butt less the butt's less the top's times s divided by 5, cut." Some
     * diameters have the same cells, so the greatest of these is found: 6 and 7 have, and so on.
     */
    private static void diametersAreCut() {
        int[][] due = {{16, 16, 16, 16, 16, 16, 16, 16}, {4, 4, 4, 4, 4, 4, 4, 4}, {5, 4, 5, 5, 5, 5, 5, 4},
            {16, 4, 16, 14, 12, 9, 7, 4}, {16, 5, 16, 14, 12, 10, 8, 5}, {9, 7, 9, 9, 9, 8, 8, 7},
            {16, 15, 16, 16, 16, 16, 16, 15}, {8, 4, 8, 8, 7, 6, 5, 4}};
        for (int[] row : due) {
            int[] found = diametersOf(row[0], row[1]);
            for (int slice = 0; slice < 6; slice++) {
                Check.due("wood of slice " + slice + " of " + row[0] + " to " + row[1],
                        Mills.woodOf(found[slice], 0, 0), Mills.woodOf(row[2 + slice], 0, 0));
            }
        }
        Check.due("diameters that no other has the cells of", textOf(diametersOf(5, 4)), "5 5 5 5 5 4");
    }

    /** "A cell is of wood if [the sum] is at most the square of the diameter." No sum is a square of an integer. */
    private static void woodEndsByTheSquare() {
        for (int diameter = 4; diameter <= 16; diameter++) {
            Kerfhall mill = Mills.ofLogs(1, diameter, "l");
            // In the row 8, the greatest odd number whose square and 1 are at most the square of the diameter.
            int a = diameter % 2 == 0 ? diameter - 1 : diameter - 2;
            int last = 8 + (a - 1) / 2;
            Check.due("last wood of " + diameter, mill.seenAt(0, 0, last, 8), 'w');
            Check.due("first wood of " + diameter, mill.seenAt(0, 5, 15 - last, 7), 'w');
            Check.due("highest wood of " + diameter, mill.seenAt(0, 3, 7, last), 'w');
            if (last < 15) {
                Check.due("none behind that of " + diameter, mill.seenAt(0, 0, last + 1, 8), '.');
                Check.due("none ahead of that of " + diameter, mill.seenAt(0, 5, 14 - last, 7), '.');
                Check.due("none above that of " + diameter, mill.seenAt(0, 3, 7, last + 1), '.');
            }
        }
        // 15 squared and 5 squared are 250, 15 squared and 7 squared are 274; 256 lies between them.
        Kerfhall thickest = Mills.ofLogs(1, 16, "s");
        Check.due("250", thickest.seenAt(0, 0, 15, 10), 'w');
        Check.due("274", thickest.seenAt(0, 0, 15, 11), '.');
        Check.due("250 at the first column", thickest.seenAt(0, 0, 0, 5), 'w');
        Check.due("274 at the first column", thickest.seenAt(0, 0, 0, 4), '.');
    }

    /** "A slice has a sweep dx and dy, from -2 to 2, 0 at first." */
    private static void sweepMovesTheWood() {
        for (int sweep = -2; sweep <= 2; sweep++) {
            Kerfhall mill = Mills.ofLogs(1, 4, "l");
            Check.due("no sweep at first", mill.seenAt(0, 2, 6, 7), 'w');
            Check.due("cells", mill.setSweep(0, 2, sweep, 0), 12);
            Check.due("first column by " + sweep, mill.seenAt(0, 2, 6 + sweep, 7), 'w');
            Check.due("ahead of it by " + sweep, mill.seenAt(0, 2, 5 + sweep, 7), '.');
            Check.due("last column by " + sweep, mill.seenAt(0, 2, 9 + sweep, 8), 'w');
            Check.due("behind it by " + sweep, mill.seenAt(0, 2, 10 + sweep, 8), '.');
            mill.setSweep(0, 2, 0, sweep);
            Check.due("first row by " + sweep, mill.seenAt(0, 2, 7, 6 + sweep), 'w');
            Check.due("below it by " + sweep, mill.seenAt(0, 2, 7, 5 + sweep), '.');
            Check.due("last row by " + sweep, mill.seenAt(0, 2, 8, 9 + sweep), 'w');
            Check.due("above it by " + sweep, mill.seenAt(0, 2, 8, 10 + sweep), '.');
            Check.due("the slice ahead", mill.seenAt(0, 1, 6, 7), 'w');
            Check.due("the slice behind", mill.seenAt(0, 3, 9, 8), 'w');
        }
        Kerfhall thickest = Mills.ofLogs(1, 16, "l");
        int whole = thickest.setSweep(0, 0, 0, 0);
        Check.due("wood leaves the log's cells", thickest.setSweep(0, 0, 2, -2), Mills.woodOf(16, 2, -2));
        Check.due("and comes back", thickest.setSweep(0, 0, 0, 0), whole);
    }

    /** "Knots are squares of cells of a slice", "only where there is wood". */
    private static void knotsAreSquares() {
        for (int size = 1; size <= 4; size++) {
            Kerfhall mill = Mills.ofLogs(1, 16, "sr");
            Check.due("cells of a knot", mill.addKnot(0, 0, 6, 7, size), size * size);
            Check.due("its first cell", mill.seenAt(0, 0, 6, 7), 'k');
            Check.due("its last cell", mill.seenAt(0, 0, 5 + size, 6 + size), 'k');
            Check.due("its other corners", mill.seenAt(0, 0, 6, 6 + size), mill.seenAt(0, 0, 5 + size, 7));
            Check.due("ahead of it", mill.seenAt(0, 0, 5, 7), 'w');
            Check.due("behind it", mill.seenAt(0, 0, 6 + size, 7), 'w');
            Check.due("below it", mill.seenAt(0, 0, 6, 6), 'w');
            Check.due("above it", mill.seenAt(0, 0, 6, 7 + size), 'w');
            Check.due("in the next slice", mill.seenAt(0, 1, 6, 7), 'w');
            Check.due("the same once more", mill.addKnot(0, 0, 6, 7, size), size * size);
        }
        Kerfhall thin = Mills.ofLogs(1, 4, "sr");
        Check.due("a knot round a corner of the wood", thin.addKnot(0, 5, 5, 5, 2), 0);
        Check.due("no wood, no knot", thin.seenAt(0, 5, 6, 6), '.');
        Check.due("a knot over the corner", thin.addKnot(0, 5, 6, 6, 2), 3);
        Check.due("all of the slice", knotEveryCell(thin, 4), 12);
        Check.due("all of the thickest slice", knotEveryCell(Mills.ofLogs(1, 16, "s"), 0), Mills.woodOf(16, 0, 0));
    }

    private static int knotEveryCell(Kerfhall mill, int slice) {
        int cells = 0;
        for (int x = 0; x < 16; x += 4) {
            for (int y = 0; y < 16; y += 4) {
                cells = mill.addKnot(0, slice, x, y, 4);
            }
        }
        return cells;
    }

    /** "In all cells for which the same sum is at most the square of twice its radius, the greatest one counting." */
    private static void rotIsRound() {
        for (int radius = 1; radius <= 8; radius++) {
            Kerfhall mill = Mills.ofLogs(1, 16, "sr");
            Check.due("cells of the radius " + radius, mill.addRot(0, 1, radius), Mills.woodOf(2 * radius, 0, 0));
            Check.due("its last cell", mill.seenAt(0, 1, 7 + radius, 8), 'r');
            Check.due("its first cell", mill.seenAt(0, 1, 8 - radius, 7), 'r');
            if (radius < 8) {
                Check.due("behind it", mill.seenAt(0, 1, 8 + radius, 8), 'w');
                Check.due("ahead of it", mill.seenAt(0, 1, 7 - radius, 7), 'w');
                Check.due("a greater one", mill.addRot(0, 1, radius + 1), Mills.woodOf(2 * radius + 2, 0, 0));
                Check.due("a lesser one", mill.addRot(0, 1, radius), Mills.woodOf(2 * radius + 2, 0, 0));
            }
            Check.due("in the next slice", mill.seenAt(0, 2, 8, 8), 'w');
        }
        Check.due("only where there is wood", Mills.ofLogs(1, 5, "").addRot(0, 0, 8), Mills.woodOf(5, 0, 0));
    }

    /** "Metal is in one cell of a slice", "only where there is wood". */
    private static void metalIsInOneCell() {
        Kerfhall mill = Mills.ofLogs(1, 4, "sm");
        Check.due("in the first wood", mill.addMetal(0, 2, 6, 7), true);
        Check.due("in none", mill.addMetal(0, 2, 5, 7), false);
        Check.due("in a corner of none", mill.addMetal(0, 2, 6, 6), false);
        Check.due("there", mill.seenAt(0, 2, 6, 7), 'm');
        Check.due("behind it", mill.seenAt(0, 2, 7, 7), 'w');
        Check.due("above it", mill.seenAt(0, 2, 6, 8), 'w');
        Check.due("ahead of it", mill.seenAt(0, 2, 5, 7), '.');
        Check.due("below it", mill.seenAt(0, 2, 6, 6), '.');
        Check.due("in the slice ahead", mill.seenAt(0, 1, 6, 7), 'w');
        Check.due("in the slice behind", mill.seenAt(0, 3, 6, 7), 'w');
        Check.due("once more", mill.addMetal(0, 2, 6, 7), true);
        Check.due("a second one", mill.addMetal(0, 2, 9, 8), true);
        Check.due("the second", mill.seenAt(0, 2, 9, 8), 'm');
        Check.due("the first still", mill.seenAt(0, 2, 6, 7), 'm');
        Kerfhall thickest = Mills.ofLogs(1, 16, "sm");
        Check.due("in the last column", thickest.addMetal(0, 5, 15, 10), true);
        Check.due("beside the wood of the last column", thickest.addMetal(0, 5, 15, 11), false);
    }

    /** "All of these only where there is wood", and a later sweep brings wood there, or takes it away. */
    private static void insideFollowsTheWood() {
        Kerfhall mill = Mills.ofLogs(1, 4, "lrm");
        mill.addKnot(0, 0, 10, 8, 1);
        mill.addMetal(0, 0, 10, 7);
        mill.addRot(0, 0, 1);
        Check.due("no knot", mill.seenAt(0, 0, 10, 8), '.');
        Check.due("no metal", mill.seenAt(0, 0, 10, 7), '.');
        Check.due("rot", mill.seenAt(0, 0, 7, 8), 'r');
        mill.setSweep(0, 0, 1, 0);
        Check.due("a knot", mill.seenAt(0, 0, 10, 8), 'k');
        Check.due("metal", mill.seenAt(0, 0, 10, 7), 'm');
        Check.due("rot goes with the sweep", mill.seenAt(0, 0, 7, 8), 'w');
        Check.due("as far", mill.seenAt(0, 0, 9, 8), 'r');
        mill.setSweep(0, 0, 0, 0);
        Check.due("no knot again", mill.seenAt(0, 0, 10, 8), '.');
    }

    /** "A log that was sawn is not changed any more." RefusalTest has what is refused then; all the others are not. */
    private static void sawnLogsStay() {
        Kerfhall mill = Mills.ofLogs(2, 4, "slrm");
        mill.addKnot(0, 0, 7, 7, 1);
        mill.saw(0);
        for (int other = 0; other < 6; other++) {
            mill.setSweep(1, other, 2, 2);
            mill.addRot(1, other, 8);
        }
        mill.tick(50);
        Check.due("volume", mill.volumeOf(0), 72);
        Check.due("its knot", mill.seenAt(0, 0, 7, 7), 'k');
        Check.due("wood of its board", mill.inBoard(0, 'v'), 48);
        Check.due("knots of its board", mill.inBoard(0, 'k'), 1);
        Check.due("rot of its board", mill.inBoard(0, 'r'), 0);
    }

    /** What each of the scans shows of one cell that has a knot, rot and metal, and of cells beside it. */
    private static String seenBy(String scans) {
        Kerfhall mill = Mills.ofLogs(1, 4, "");
        mill.setSweep(0, 0, 2, 0);
        mill.addRot(0, 0, 1);
        mill.addKnot(0, 0, 9, 7, 1);
        mill.addKnot(0, 0, 11, 7, 1);
        mill.addMetal(0, 0, 11, 8);
        mill.addMetal(0, 0, 10, 8);
        for (char kind : scans.toCharArray()) {
            mill.scan(0, kind);
        }
        StringBuilder all = new StringBuilder();
        for (int x = 6; x <= 12; x++) {
            all.append(mill.seenAt(0, 0, x, 7));
        }
        all.append(' ');
        for (int x = 6; x <= 12; x++) {
            all.append(mill.seenAt(0, 0, x, 8));
        }
        return all.toString();
    }

    /**
     * "What is seen of a log is by all of its scans: without sweep, it is 0 in all slices; knots, rot and metal that
     * were not scanned are not seen, and where they are is reckoned by the true place, also where no wood is seen."
     */
    private static void scansShowTheirPart() {
        String[][] due = {{"s", "wwww... wwww..."}, {"l", "..wwww. ..wwww."}, {"sl", "..wwww. ..wwww."},
            {"ls", "..wwww. ..wwww."}, {"sr", "wwwKrk. wwwrr.."}, {"lr", "..wKrk. ..wrrw."}, {"sm", "wwww... wwwwmm."},
            {"lm", "..wwww. ..wwmm."}, {"srm", "wwwKrk. wwwrmm."}, {"mrs", "wwwKrk. wwwrmm."},
            {"lrm", "..wKrk. ..wrmm."}, {"slrm", "..wKrk. ..wrmm."}};
        for (String[] row : due) {
            Check.due("seen by " + row[0], seenBy(row[0]), row[1]);
        }
    }

    /** "'s' sees the diameters": those of each slice. */
    private static void diametersAreSeenInEachSlice() {
        for (String scans : new String[] {"s", "l"}) {
            Kerfhall mill = new Kerfhall();
            mill.addLog(16, 4, false);
            mill.scan(0, scans.charAt(0));
            int[] diameters = {16, 14, 12, 9, 7, 4};
            for (int slice = 0; slice < 6; slice++) {
                int wood = 0;
                for (int x = 0; x < 16; x++) {
                    wood += mill.seenAt(0, slice, x, 8) == 'w' ? 1 : 0;
                }
                Check.due("wood in the row 8 of slice " + slice, wood, diameters[slice] / 2 * 2);
            }
        }
    }

    /** "'m' metal, whatever else", "'K' both". */
    private static void lettersOfSeenAt() {
        Kerfhall mill = Mills.ofLogs(1, 8, "srm");
        mill.addKnot(0, 0, 4, 7, 1);
        mill.addKnot(0, 0, 8, 8, 1);
        mill.addKnot(0, 0, 7, 7, 1);
        mill.addRot(0, 0, 1);
        mill.addMetal(0, 0, 7, 7);
        mill.addMetal(0, 0, 7, 8);
        mill.addMetal(0, 0, 5, 8);
        mill.addMetal(0, 0, 10, 8);
        mill.addKnot(0, 0, 10, 8, 1);
        Check.due("no wood", mill.seenAt(0, 0, 3, 8), '.');
        Check.due("wood", mill.seenAt(0, 0, 4, 8), 'w');
        Check.due("a knot", mill.seenAt(0, 0, 4, 7), 'k');
        Check.due("rot", mill.seenAt(0, 0, 8, 7), 'r');
        Check.due("both", mill.seenAt(0, 0, 8, 8), 'K');
        Check.due("metal in wood", mill.seenAt(0, 0, 5, 8), 'm');
        Check.due("metal in a knot", mill.seenAt(0, 0, 10, 8), 'm');
        Check.due("metal in rot", mill.seenAt(0, 0, 7, 8), 'm');
        Check.due("metal in both", mill.seenAt(0, 0, 7, 7), 'm');
    }

    /** "What comes to a log behind a scan is seen, too." */
    private static void whatComesBehindAScan() {
        Kerfhall mill = Mills.ofLogs(1, 4, "lrm");
        mill.addKnot(0, 0, 7, 7, 1);
        Check.due("a knot", mill.seenAt(0, 0, 7, 7), 'k');
        mill.addRot(0, 0, 1);
        Check.due("rot", mill.seenAt(0, 0, 8, 8), 'r');
        mill.addMetal(0, 0, 8, 8);
        Check.due("metal", mill.seenAt(0, 0, 8, 8), 'm');
        mill.setSweep(0, 0, -1, 0);
        Check.due("sweep", mill.seenAt(0, 0, 5, 8), 'w');
    }

    /** "Returns whether it was not scanned so", each kind for itself and each log, too. */
    private static void scansOfAKind() {
        Kerfhall mill = Mills.ofLogs(2, 4, "");
        Check.due("by 'l'", mill.scan(0, 'l'), true);
        Check.due("by 's', though 'l' sees the same", mill.scan(0, 's'), true);
        Check.due("by 'l' again", mill.scan(0, 'l'), false);
        Check.due("by 's' again", mill.scan(0, 's'), false);
        Check.due("by 'r'", mill.scan(0, 'r'), true);
        Check.due("by 'm'", mill.scan(0, 'm'), true);
        Check.due("by 'm' again", mill.scan(0, 'm'), false);
        Check.due("by 'r' again", mill.scan(0, 'r'), false);
        Check.due("the other log", mill.scan(1, 'm'), true);
    }

    /** "Returns how many cells of wood a log had": of the least and the greatest one, by each sweep, and sawn. */
    private static void volumes() {
        Check.due("the least log", Mills.ofLogs(1, 4, "").volumeOf(0), 72);
        Kerfhall mill = Mills.ofLogs(1, 16, "s");
        Check.due("the greatest log", mill.volumeOf(0), 6 * Mills.woodOf(16, 0, 0));
        int due = 6 * Mills.woodOf(16, 0, 0);
        for (int slice = 0; slice < 6; slice++) {
            mill.setSweep(0, slice, 2, -1);
            due += Mills.woodOf(16, 2, -1) - Mills.woodOf(16, 0, 0);
            Check.due("with a sweep", mill.volumeOf(0), due);
        }
        mill.saw(0);
        Check.due("of a sawn log", mill.volumeOf(0), due);
    }

    public static void main(String[] args) {
        logsAreNumbered();
        diametersAreCut();
        woodEndsByTheSquare();
        sweepMovesTheWood();
        knotsAreSquares();
        rotIsRound();
        metalIsInOneCell();
        insideFollowsTheWood();
        sawnLogsStay();
        scansShowTheirPart();
        diametersAreSeenInEachSlice();
        lettersOfSeenAt();
        whatComesBehindAScan();
        scansOfAKind();
        volumes();
        Check.end("LogEdgeTest");
    }
}
