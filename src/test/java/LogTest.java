/** Promises 1 to 9: a new object, logs and scanners. */
public final class LogTest {
    private static final Class<IndexOutOfBoundsException> INDEX = IndexOutOfBoundsException.class;
    private static final Class<IllegalArgumentException> ARGUMENT = IllegalArgumentException.class;
    private static final Class<UnsupportedOperationException> UNSUPPORTED = UnsupportedOperationException.class;
    private static final Class<IllegalStateException> STATE = IllegalStateException.class;

    private LogTest() {
    }

    private static Kerfhall millWithLog(int butt, int top) {
        Kerfhall mill = new Kerfhall();
        mill.addLog(butt, top, false);
        return mill;
    }

    private static Kerfhall millWithSawnLog() {
        Kerfhall mill = millWithLog(4, 4);
        mill.scan(0, 's');
        mill.saw(0);
        return mill;
    }

    private static void promise1NewObject() {
        Kerfhall mill = new Kerfhall();
        Check.due("boards", mill.boards(), 0);
        Check.due("wear", mill.wear(), 0);
        Check.due("stopped", mill.stopped(), 0);
        Check.due("queue", mill.queue(), 0);
        Check.due("inYard", mill.inYard(), 0);
        Check.due("inBin", mill.inBin(3), 0);
        Check.due("balance", mill.balance(), 0);
        Check.due("money", mill.money(), 0L);
        Check.due("chips", mill.chips(), 0);
        Check.due("dust", mill.dust(), 0);
        Check.due("burnt", mill.burnt(), 0);
        Check.due("logs", mill.setWeather(false, false), 0);
        Check.due("sound", mill.isSound(), true);
        Check.refused(mill, "volumeOf of no log", INDEX, () -> mill.volumeOf(0));
        Check.refused(mill, "gradeOf of no board", INDEX, () -> mill.gradeOf(0));
        Check.refused(mill, "deliver of no order", INDEX, () -> mill.deliver(0));
    }

    private static void promise2AddLog() {
        Kerfhall mill = new Kerfhall();
        Check.refused(mill, "butt 3", ARGUMENT, () -> mill.addLog(3, 3, false));
        Check.refused(mill, "butt 17", ARGUMENT, () -> mill.addLog(17, 16, false));
        Check.refused(mill, "top 3", ARGUMENT, () -> mill.addLog(4, 3, false));
        Check.refused(mill, "top over butt", ARGUMENT, () -> mill.addLog(10, 11, false));
        Check.refused(mill, "least int", ARGUMENT, () -> mill.addLog(Integer.MIN_VALUE, Integer.MIN_VALUE, false));
        Check.refused(mill, "greatest int", ARGUMENT, () -> mill.addLog(Integer.MAX_VALUE, 4, false));
        int[][] diameters = {{4, 4}, {16, 16}, {16, 4}, {5, 4}, {10, 10}, {12, 10}, {8, 4}, {9, 7}, {7, 5}, {6, 6}};
        for (int log = 0; log < 10; log++) {
            Check.due("number of a log", mill.addLog(diameters[log][0], diameters[log][1], log % 2 == 0), log);
        }
        Check.refused(mill, "an eleventh log", STATE, () -> mill.addLog(8, 8, false));
        Check.refused(mill, "a wrong eleventh log", ARGUMENT, () -> mill.addLog(8, 9, false));
        Check.due("logs that lie", mill.setWeather(false, false), 10);
    }

    private static void promise3SetSweep() {
        Kerfhall mill = millWithLog(12, 10);
        Check.due("sweep of the butt", mill.setSweep(0, 0, 2, 0), 112);
        Check.due("sweep of the top", mill.setSweep(0, 5, 0, -2), 80);
        Kerfhall thick = millWithLog(16, 16);
        for (int dx = -2; dx <= 2; dx++) {
            for (int dy = -2; dy <= 2; dy++) {
                Check.due("sweep " + dx + " " + dy, thick.setSweep(0, 3, dx, dy), Mills.woodOf(16, dx, dy));
            }
        }
        Check.due("one slice alone is swept", thick.volumeOf(0), 5 * Mills.woodOf(16, 0, 0) + Mills.woodOf(16, 2, 2));
        Check.refused(mill, "log 1", INDEX, () -> mill.setSweep(1, 0, 0, 0));
        Check.refused(mill, "log -1", INDEX, () -> mill.setSweep(-1, 0, 0, 0));
        Check.refused(mill, "slice 6", INDEX, () -> mill.setSweep(0, 6, 0, 0));
        Check.refused(mill, "slice -1 and a wrong sweep", INDEX, () -> mill.setSweep(0, -1, 3, 0));
        Check.refused(mill, "dx 3", ARGUMENT, () -> mill.setSweep(0, 0, 3, 0));
        Check.refused(mill, "dx -3", ARGUMENT, () -> mill.setSweep(0, 0, -3, 0));
        Check.refused(mill, "dy 3", ARGUMENT, () -> mill.setSweep(0, 0, 0, 3));
        Check.refused(mill, "dy -3", ARGUMENT, () -> mill.setSweep(0, 0, 0, -3));
        Kerfhall sawn = millWithSawnLog();
        Check.refused(sawn, "sweep of a sawn log", UNSUPPORTED, () -> sawn.setSweep(0, 0, 0, 0));
        Check.refused(sawn, "wrong sweep of a sawn log", ARGUMENT, () -> sawn.setSweep(0, 0, 0, 9));
    }

    private static void promise4AddKnot() {
        Kerfhall mill = millWithLog(8, 8);
        Check.due("a knot of 4 cells", mill.addKnot(0, 2, 7, 7, 2), 4);
        Check.due("a knot over it", mill.addKnot(0, 2, 8, 8, 2), 7);
        Check.due("a knot of one cell", mill.addKnot(0, 2, 5, 8, 1), 8);
        Check.due("a knot without wood", mill.addKnot(0, 2, 12, 12, 4), 8);
        Check.due("another slice", mill.addKnot(0, 1, 4, 7, 1), 1);
        Check.due("a knot half in wood", mill.addKnot(0, 0, 2, 6, 4), 8);
        // The square stays where it is as the wood moves: the columns 2 to 5 lie in wood from column 6 on.
        mill.setSweep(0, 0, 2, 0);
        Check.due("the wood moved off the knot", mill.addKnot(0, 0, 0, 0, 1), 0);
        Check.refused(mill, "log 1", INDEX, () -> mill.addKnot(1, 0, 0, 0, 1));
        Check.refused(mill, "slice 6 and a wrong size", INDEX, () -> mill.addKnot(0, 6, 0, 0, 5));
        Check.refused(mill, "x -1", ARGUMENT, () -> mill.addKnot(0, 0, -1, 0, 1));
        Check.refused(mill, "y -1", ARGUMENT, () -> mill.addKnot(0, 0, 0, -1, 1));
        Check.refused(mill, "x over the side", ARGUMENT, () -> mill.addKnot(0, 0, 15, 0, 2));
        Check.refused(mill, "y over the side", ARGUMENT, () -> mill.addKnot(0, 0, 0, 13, 4));
        Check.refused(mill, "greatest x", ARGUMENT, () -> mill.addKnot(0, 0, Integer.MAX_VALUE, 0, 4));
        Check.refused(mill, "size 0", ARGUMENT, () -> mill.addKnot(0, 0, 0, 0, 0));
        Check.refused(mill, "size 5", ARGUMENT, () -> mill.addKnot(0, 0, 0, 0, 5));
        Check.refused(mill, "least size", ARGUMENT, () -> mill.addKnot(0, 0, 0, 0, Integer.MIN_VALUE));
        Check.due("the last cell", mill.addKnot(0, 5, 15, 15, 1), 0);
        Kerfhall sawn = millWithSawnLog();
        Check.refused(sawn, "knot of a sawn log", UNSUPPORTED, () -> sawn.addKnot(0, 0, 0, 0, 1));
        Check.refused(sawn, "wrong knot of a sawn log", ARGUMENT, () -> sawn.addKnot(0, 0, 16, 0, 1));
    }

    private static void promise5AddRot() {
        Kerfhall mill = millWithLog(8, 8);
        Check.due("radius 1", mill.addRot(0, 3, 1), 4);
        Check.due("radius 2", mill.addRot(0, 3, 2), 12);
        Check.due("radius 1 behind it", mill.addRot(0, 3, 1), 12);
        Check.due("radius 8 is cut by the wood", mill.addRot(0, 3, 8), 52);
        Check.due("another slice", mill.addRot(0, 4, 3), 32);
        Kerfhall thick = millWithLog(16, 16);
        thick.setSweep(0, 0, 2, 2);
        Check.due("rot goes with the sweep", thick.addRot(0, 0, 8), Mills.woodOf(16, 2, 2));
        Check.refused(mill, "log -1", INDEX, () -> mill.addRot(-1, 0, 1));
        Check.refused(mill, "slice 6 and a wrong radius", INDEX, () -> mill.addRot(0, 6, 0));
        Check.refused(mill, "radius 0", ARGUMENT, () -> mill.addRot(0, 0, 0));
        Check.refused(mill, "radius 9", ARGUMENT, () -> mill.addRot(0, 0, 9));
        Kerfhall sawn = millWithSawnLog();
        Check.refused(sawn, "rot of a sawn log", UNSUPPORTED, () -> sawn.addRot(0, 0, 1));
        Check.refused(sawn, "wrong rot of a sawn log", ARGUMENT, () -> sawn.addRot(0, 0, -1));
    }

    private static void promise6AddMetal() {
        Kerfhall mill = millWithLog(8, 8);
        Check.due("metal in wood", mill.addMetal(0, 0, 4, 7), true);
        Check.due("metal beside the wood", mill.addMetal(0, 0, 4, 5), false);
        Check.due("metal in the corner", mill.addMetal(0, 5, 15, 15), false);
        mill.setSweep(0, 1, 2, 0);
        Check.due("metal by the true place", mill.addMetal(0, 1, 13, 8), true);
        Check.refused(mill, "log 1", INDEX, () -> mill.addMetal(1, 0, 0, 0));
        Check.refused(mill, "slice -1 and a wrong cell", INDEX, () -> mill.addMetal(0, -1, 16, 0));
        Check.refused(mill, "x 16", ARGUMENT, () -> mill.addMetal(0, 0, 16, 0));
        Check.refused(mill, "x -1", ARGUMENT, () -> mill.addMetal(0, 0, -1, 0));
        Check.refused(mill, "y 16", ARGUMENT, () -> mill.addMetal(0, 0, 0, 16));
        Check.refused(mill, "y -1", ARGUMENT, () -> mill.addMetal(0, 0, 0, -1));
        Kerfhall sawn = millWithSawnLog();
        Check.refused(sawn, "metal of a sawn log", UNSUPPORTED, () -> sawn.addMetal(0, 0, 0, 0));
        Check.refused(sawn, "wrong metal of a sawn log", ARGUMENT, () -> sawn.addMetal(0, 0, 0, 99));
    }

    private static void promise7Scan() {
        Kerfhall mill = millWithLog(8, 8);
        for (char kind : "slrm".toCharArray()) {
            Check.due("first scan " + kind, mill.scan(0, kind), true);
            Check.due("second scan " + kind, mill.scan(0, kind), false);
        }
        mill.addLog(8, 8, false);
        Check.due("scan of another log", mill.scan(1, 'l'), true);
        Check.refused(mill, "log 2 and no such kind", INDEX, () -> mill.scan(2, 'x'));
        Check.refused(mill, "no such kind", ARGUMENT, () -> mill.scan(0, 'S'));
        Check.refused(mill, "no such kind either", ARGUMENT, () -> mill.scan(0, (char) 0));
        Kerfhall sawn = millWithSawnLog();
        Check.refused(sawn, "scan of a sawn log", UNSUPPORTED, () -> sawn.scan(0, 'r'));
        Check.refused(sawn, "wrong scan of a sawn log", ARGUMENT, () -> sawn.scan(0, 'k'));
    }

    private static void promise8VolumeOf() {
        Check.due("volume of a cylinder", millWithLog(8, 8).volumeOf(0), 312);
        Check.due("volume of the least log", millWithLog(4, 4).volumeOf(0), 72);
        // The diameters are 8, 8, 7, 6, 5 and 4.
        Check.due("volume of a cone", millWithLog(8, 4).volumeOf(0), 52 + 52 + 32 + 32 + 16 + 12);
        Kerfhall sawn = millWithSawnLog();
        Check.due("volume of a sawn log", sawn.volumeOf(0), 72);
        Check.refused(sawn, "log 1", INDEX, () -> sawn.volumeOf(1));
        Check.refused(sawn, "log -1", INDEX, () -> sawn.volumeOf(-1));
    }

    private static void promise9SeenAt() {
        Kerfhall mill = millWithLog(6, 6);
        mill.setSweep(0, 0, 2, 0);
        mill.addKnot(0, 0, 12, 8, 1);
        mill.addKnot(0, 0, 5, 8, 1);
        mill.addKnot(0, 0, 10, 8, 1);
        mill.addRot(0, 0, 1);
        mill.addMetal(0, 0, 9, 7);
        mill.addMetal(0, 0, 12, 7);
        mill.addMetal(0, 0, 5, 7);
        Check.refused(mill, "not scanned", UNSUPPORTED, () -> mill.seenAt(0, 0, 8, 8));
        mill.scan(0, 'r');
        mill.scan(0, 'm');
        Check.refused(mill, "not scanned by 's' or 'l'", UNSUPPORTED, () -> mill.seenAt(0, 0, 8, 8));
        Check.refused(mill, "no such cell", ARGUMENT, () -> mill.seenAt(0, 0, 16, 8));
        Check.refused(mill, "no such cell", ARGUMENT, () -> mill.seenAt(0, 0, 8, -1));
        Check.refused(mill, "no such slice", INDEX, () -> mill.seenAt(0, 6, 16, 8));
        Check.refused(mill, "no such log", INDEX, () -> mill.seenAt(1, 0, 0, 0));
        mill.scan(0, 's');
        Check.due("wood as without sweep", mill.seenAt(0, 0, 6, 8), 'w');
        Check.due("no knot where no wood is", mill.seenAt(0, 0, 5, 8), 'w');
        Check.due("a knot where no wood is seen", mill.seenAt(0, 0, 12, 8), 'k');
        Check.due("metal where no wood is seen", mill.seenAt(0, 0, 12, 7), 'm');
        Check.due("no metal where no wood is", mill.seenAt(0, 0, 5, 7), 'w');
        Check.due("rot at its true place", mill.seenAt(0, 0, 9, 8), 'r');
        Check.due("both", mill.seenAt(0, 0, 10, 8), 'K');
        Check.due("metal in rot", mill.seenAt(0, 0, 9, 7), 'm');
        Check.due("no wood seen", mill.seenAt(0, 0, 11, 8), '.');
        Check.due("another slice", mill.seenAt(0, 1, 5, 8), 'w');
        mill.scan(0, 'l');
        Check.due("wood with its sweep", mill.seenAt(0, 0, 11, 8), 'w');
        Check.due("no wood with the sweep", mill.seenAt(0, 0, 6, 8), '.');
        mill.addKnot(0, 0, 11, 8, 1);
        Check.due("a knot behind the scan", mill.seenAt(0, 0, 11, 8), 'k');
    }

    private static void promise9WithoutAllScans() {
        Kerfhall mill = millWithLog(6, 6);
        mill.addKnot(0, 0, 8, 8, 1);
        mill.addMetal(0, 0, 7, 7);
        mill.addRot(0, 1, 3);
        mill.scan(0, 'l');
        Check.due("a knot is not seen", mill.seenAt(0, 0, 8, 8), 'w');
        Check.due("metal is not seen", mill.seenAt(0, 0, 7, 7), 'w');
        Check.due("rot is not seen", mill.seenAt(0, 1, 8, 8), 'w');
        mill.scan(0, 'm');
        Check.due("metal is seen", mill.seenAt(0, 0, 7, 7), 'm');
        Check.due("a knot still is not seen", mill.seenAt(0, 0, 8, 8), 'w');
        mill.saw(0);
        Check.due("a sawn log is seen", mill.seenAt(0, 0, 7, 7), 'm');
    }

    public static void main(String[] args) {
        promise1NewObject();
        promise2AddLog();
        promise3SetSweep();
        promise4AddKnot();
        promise5AddRot();
        promise6AddMetal();
        promise7Scan();
        promise8VolumeOf();
        promise9SeenAt();
        promise9WithoutAllScans();
        Check.end("LogTest");
    }
}
