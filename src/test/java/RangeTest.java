import java.util.NoSuchElementException;
import java.util.function.Supplier;

/**
 * Each argument that has a range: the least and the greatest one are allowed; the one below, the one above, and the
 * least and the greatest number that there is, are refused and change nothing.
 */
public final class RangeTest {
    private static final Class<IndexOutOfBoundsException> INDEX = IndexOutOfBoundsException.class;
    private static final Class<IllegalArgumentException> ARGUMENT = IllegalArgumentException.class;
    private static final Class<NoSuchElementException> MISSING = NoSuchElementException.class;

    private RangeTest() {
    }

    /** A call with one argument of it left open. */
    interface Open {
        Object with(Kerfhall mill, int argument);
    }

    private static void range(String what, Supplier<Kerfhall> maker, int low, int high,
            Class<? extends RuntimeException> wrong, Open call) {
        for (int argument : new int[] {low, high}) {
            Kerfhall mill = maker.get();
            Check.allowed(what + " " + argument, () -> call.with(mill, argument));
        }
        Kerfhall mill = maker.get();
        for (int argument : new int[] {low - 1, high + 1, Integer.MIN_VALUE, Integer.MAX_VALUE}) {
            Check.refused(mill, what + " " + argument, wrong, () -> call.with(mill, argument));
        }
    }

    /** Each letter is allowed, and none else, not even one with the same lower eight bits. */
    private static void letters(String what, Supplier<Kerfhall> maker, String letters, Open call) {
        StringBuilder allowed = new StringBuilder();
        StringBuilder wrong = new StringBuilder();
        Kerfhall mill = maker.get();
        String before = Inside.of(mill);
        for (char sign = 0; sign < 256; sign++) {
            if (letters.indexOf(sign) >= 0) {
                Object outcome = outcome(maker.get(), call, sign);
                allowed.append(outcome instanceof String ? "" : sign);
                wrong.append(isRefused(mill, call, (char) (sign + 256)) ? "" : sign);
                wrong.append(isRefused(mill, call, (char) (sign + 0xFF00)) ? "" : sign);
            } else {
                wrong.append(isRefused(mill, call, sign) ? "" : sign);
            }
        }
        Check.due(what + ": letters that are allowed", allowed.length(), letters.length());
        Check.due(what + ": wrong letters that are allowed", wrong.toString(), "");
        Check.due(what + " changes nothing for a wrong letter", Inside.of(mill).equals(before), true);
    }

    private static Object outcome(Kerfhall mill, Open call, char letter) {
        return Check.outcome(() -> call.with(mill, letter));
    }

    private static boolean isRefused(Kerfhall mill, Open call, char letter) {
        return "throws IllegalArgumentException".equals(outcome(mill, call, letter));
    }

    private static Kerfhall threeLogs() {
        return Mills.ofLogs(3, 16, "srm");
    }

    private static void promise2() {
        range("addLog: butt", Kerfhall::new, 4, 16, ARGUMENT, (m, n) -> m.addLog(n, 4, true));
        for (int butt = 4; butt <= 16; butt++) {
            int diameter = butt;
            range("addLog: top of " + butt, Kerfhall::new, 4, butt, ARGUMENT, (m, n) -> m.addLog(diameter, n, false));
        }
    }

    private static void promise3() {
        range("setSweep: log", RangeTest::threeLogs, 0, 2, INDEX, (m, n) -> m.setSweep(n, 0, 0, 0));
        range("setSweep: slice", RangeTest::threeLogs, 0, 5, INDEX, (m, n) -> m.setSweep(0, n, 0, 0));
        range("setSweep: dx", RangeTest::threeLogs, -2, 2, ARGUMENT, (m, n) -> m.setSweep(0, 0, n, 0));
        range("setSweep: dy", RangeTest::threeLogs, -2, 2, ARGUMENT, (m, n) -> m.setSweep(0, 0, 0, n));
    }

    private static void promise4() {
        range("addKnot: log", RangeTest::threeLogs, 0, 2, INDEX, (m, n) -> m.addKnot(n, 0, 0, 0, 1));
        range("addKnot: slice", RangeTest::threeLogs, 0, 5, INDEX, (m, n) -> m.addKnot(0, n, 0, 0, 1));
        range("addKnot: size", RangeTest::threeLogs, 1, 4, ARGUMENT, (m, n) -> m.addKnot(0, 0, 0, 0, n));
        for (int side = 1; side <= 4; side++) {
            int size = side;
            range("addKnot: x for " + size, RangeTest::threeLogs, 0, 16 - size, ARGUMENT,
                    (m, n) -> m.addKnot(0, 0, n, 16 - size, size));
            range("addKnot: y for " + size, RangeTest::threeLogs, 0, 16 - size, ARGUMENT,
                    (m, n) -> m.addKnot(0, 0, 16 - size, n, size));
            range("addKnot: size at the last " + size, RangeTest::threeLogs, 1, size, ARGUMENT,
                    (m, n) -> m.addKnot(0, 0, 16 - size, 16 - size, n));
        }
    }

    private static void promise5() {
        range("addRot: log", RangeTest::threeLogs, 0, 2, INDEX, (m, n) -> m.addRot(n, 0, 1));
        range("addRot: slice", RangeTest::threeLogs, 0, 5, INDEX, (m, n) -> m.addRot(0, n, 1));
        range("addRot: radius", RangeTest::threeLogs, 1, 8, ARGUMENT, (m, n) -> m.addRot(0, 0, n));
    }

    private static void promise6() {
        range("addMetal: log", RangeTest::threeLogs, 0, 2, INDEX, (m, n) -> m.addMetal(n, 0, 0, 0));
        range("addMetal: slice", RangeTest::threeLogs, 0, 5, INDEX, (m, n) -> m.addMetal(0, n, 0, 0));
        range("addMetal: x", RangeTest::threeLogs, 0, 15, ARGUMENT, (m, n) -> m.addMetal(0, 0, n, 0));
        range("addMetal: y", RangeTest::threeLogs, 0, 15, ARGUMENT, (m, n) -> m.addMetal(0, 0, 0, n));
    }

    private static void promises7To9() {
        range("scan: log", RangeTest::threeLogs, 0, 2, INDEX, (m, n) -> m.scan(n, 'l'));
        letters("scan", () -> Mills.ofLogs(1, 4, ""), "slrm", (m, n) -> m.scan(0, (char) n));
        range("volumeOf: log", RangeTest::threeLogs, 0, 2, INDEX, (m, n) -> m.volumeOf(n));
        range("seenAt: log", RangeTest::threeLogs, 0, 2, INDEX, (m, n) -> m.seenAt(n, 0, 0, 0));
        range("seenAt: slice", RangeTest::threeLogs, 0, 5, INDEX, (m, n) -> m.seenAt(0, n, 0, 0));
        range("seenAt: x", RangeTest::threeLogs, 0, 15, ARGUMENT, (m, n) -> m.seenAt(0, 0, n, 0));
        range("seenAt: y", RangeTest::threeLogs, 0, 15, ARGUMENT, (m, n) -> m.seenAt(0, 0, 0, n));
    }

    private static void promises10And11() {
        for (boolean is : new boolean[] {false, true}) {
            range("setRule: grade", Kerfhall::new, 0, 2, ARGUMENT, (m, n) -> m.setRule(n, 0, 0, is, !is));
            range("setRule: wane", Kerfhall::new, 0, 100, ARGUMENT, (m, n) -> m.setRule(2, n, 0, is, is));
            range("setRule: knots", Kerfhall::new, 0, 256, ARGUMENT, (m, n) -> m.setRule(1, 0, n, is, is));
        }
        range("setPrice: thickness", Kerfhall::new, 2, 3, ARGUMENT, (m, n) -> m.setPrice(n, 0, 0));
        range("setPrice: grade", Kerfhall::new, 0, 2, ARGUMENT, (m, n) -> m.setPrice(2, n, 0));
        range("setPrice: price", Kerfhall::new, 0, 99, ARGUMENT, (m, n) -> m.setPrice(3, 1, n));
    }

    private static void promises12To15() {
        range("plan: log", RangeTest::threeLogs, 0, 2, INDEX, (m, n) -> m.plan(n));
        range("planned: log", RangeTest::threeLogs, 0, 2, INDEX, (m, n) -> m.planned(n));
        range("plannedAt: log", RangeTest::threeLogs, 0, 2, INDEX, (m, n) -> m.plannedAt(n, 0, 'x'));
        int boards = threeLogs().planned(0);
        range("plannedAt: index", RangeTest::threeLogs, 0, boards - 1, MISSING, (m, n) -> m.plannedAt(0, n, 'x'));
        letters("plannedAt", () -> Mills.ofLogs(1, 4, "s"), "xtywsl", (m, n) -> m.plannedAt(0, 0, (char) n));
        range("saw: log", RangeTest::threeLogs, 0, 2, INDEX, (m, n) -> m.saw(n));
    }

    private static void promises20To24() {
        range("partOf: board", Mills::ofBins, 0, 4, INDEX, (m, n) -> m.partOf(n, 'x'));
        letters("partOf", () -> Mills.ofBoards(1), "xtywsl", (m, n) -> m.partOf(0, (char) n));
        range("inBoard: board", Mills::ofBins, 0, 4, INDEX, (m, n) -> m.inBoard(n, 'v'));
        letters("inBoard", () -> Mills.ofBoards(1), "vnkr", (m, n) -> m.inBoard(0, (char) n));
        range("gradeOf: board", Mills::ofBins, 0, 4, INDEX, (m, n) -> m.gradeOf(n));
        range("stateOf: board", Mills::ofBins, 0, 4, INDEX, (m, n) -> m.stateOf(n) == 'z');
        range("logOf: board", Mills::ofBins, 0, 4, INDEX, (m, n) -> m.logOf(n));
    }

    /** Of the slices 0 to 5 and of the slices 1 to 4. */
    private static void promise25() {
        range("trim: board", Mills::ofBins, 0, 4, INDEX, (m, n) -> m.trim(n, 0, 6));
        for (int slices = 2; slices <= 6; slices++) {
            int length = slices;
            range("trim: first for " + length, Mills::ofBins, 0, 6 - length, ARGUMENT, (m, n) -> m.trim(0, n, length));
        }
        for (int slice = 0; slice <= 4; slice++) {
            int first = slice;
            range("trim: length from " + first, Mills::ofBins, 2, 6 - first, ARGUMENT, (m, n) -> m.trim(0, first, n));
        }
        range("trim: first of a short one", RangeTest::shortBoard, 1, 3, ARGUMENT, (m, n) -> m.trim(0, n, 2));
        range("trim: length of a short one", RangeTest::shortBoard, 2, 4, ARGUMENT, (m, n) -> m.trim(0, 1, n));
    }

    private static Kerfhall shortBoard() {
        Kerfhall mill = Mills.ofBoards(1);
        mill.trim(0, 1, 4);
        return mill;
    }

    /** Of the rows 6 to 9, and of the rows 4 to 11. */
    private static void promise26() {
        range("rip: board", Mills::ofBins, 0, 4, INDEX, (m, n) -> m.rip(n, 6, 4));
        range("rip: low for 3", Mills::ofBins, 6, 7, ARGUMENT, (m, n) -> m.rip(0, n, 3));
        range("rip: low for 4", Mills::ofBins, 6, 6, ARGUMENT, (m, n) -> m.rip(0, n, 4));
        range("rip: width from 6", Mills::ofBins, 3, 4, ARGUMENT, (m, n) -> m.rip(0, 6, n));
        range("rip: width from 7", Mills::ofBins, 3, 3, ARGUMENT, (m, n) -> m.rip(0, 7, n));
        Check.due("a wide board", Mills.partsOf(wideBoard(), 0), "6 3 4 8 0 6");
        range("rip: low of a wide one", RangeTest::wideBoard, 4, 9, ARGUMENT, (m, n) -> m.rip(0, n, 3));
        range("rip: width of a wide one", RangeTest::wideBoard, 3, 8, ARGUMENT, (m, n) -> m.rip(0, 4, n));
        range("rip: width in a wide one", RangeTest::wideBoard, 3, 6, ARGUMENT, (m, n) -> m.rip(0, 6, n));
    }

    private static Kerfhall wideBoard() {
        Kerfhall mill = Mills.ofLogs(1, 8, "s");
        mill.saw(0);
        return mill;
    }

    private static void promise27() {
        range("tick: ticks", Kerfhall::new, 1, 50, ARGUMENT, (m, n) -> m.tick(n));
        range("tick: ticks of boards", Mills::ofBins, 1, 50, ARGUMENT, (m, n) -> m.tick(n));
    }

    private static void promises29To32() {
        range("inBin: bin", Mills::ofBins, 0, 3, INDEX, (m, n) -> m.inBin(n));
        range("classOf: bin", Mills::ofBins, 0, 3, INDEX, (m, n) -> m.classOf(n));
        range("setStep: step", Kerfhall::new, 0, 3, ARGUMENT, (m, n) -> m.setStep(n, 1));
        range("setStep: drop", Kerfhall::new, 1, 9, ARGUMENT, (m, n) -> m.setStep(3, n));
        range("charge: bin", Mills::ofBins, 0, 3, INDEX, (m, n) -> m.charge(n));
    }

    private static void promises35And36() {
        range("moisture: board", Mills::ofBins, 0, 4, INDEX, (m, n) -> m.moisture(n));
        range("hasChecks: board", Mills::ofBins, 0, 4, INDEX, (m, n) -> m.hasChecks(n));
    }

    private static void promise37() {
        for (boolean is : new boolean[] {false, true}) {
            range("addOrder: thickness", Kerfhall::new, 2, 3, ARGUMENT, (m, n) -> m.addOrder(n, 0, 1, 0, 0, is));
            range("addOrder: worst", Kerfhall::new, 0, 3, ARGUMENT, (m, n) -> m.addOrder(2, n, 1, 0, 0, is));
            range("addOrder: length", Kerfhall::new, 1, 200, ARGUMENT, (m, n) -> m.addOrder(2, 0, n, 0, 0, is));
            range("addOrder: tolerance", Kerfhall::new, 0, 20, ARGUMENT, (m, n) -> m.addOrder(2, 0, 1, n, 0, is));
            range("addOrder: price", Kerfhall::new, 0, 99, ARGUMENT, (m, n) -> m.addOrder(2, 0, 1, 0, n, is));
        }
    }

    private static Kerfhall threeOrders() {
        Kerfhall mill = new Kerfhall();
        for (int order = 0; order < 3; order++) {
            mill.addOrder(3, 0, 1, 1, 0, false);
        }
        return mill;
    }

    private static Kerfhall soldBoards() {
        Kerfhall mill = Mills.ofYard(3);
        mill.addOrder(2, 3, 18, 0, 0, false);
        mill.deliver(0);
        return mill;
    }

    private static void promises38And39() {
        range("deliver: order", RangeTest::threeOrders, 0, 2, INDEX, (m, n) -> m.deliver(n));
        range("soldAs: board", RangeTest::soldBoards, 0, 2, INDEX, (m, n) -> m.soldAs(n));
    }

    /** With nothing there, no number is one of a log, a board or an order. */
    private static void nothingThere() {
        Kerfhall mill = new Kerfhall();
        for (int number : new int[] {-1, 0, 1, 9, Integer.MIN_VALUE, Integer.MAX_VALUE}) {
            Check.refused(mill, "setSweep of none", INDEX, () -> mill.setSweep(number, 0, 0, 0));
            Check.refused(mill, "addKnot of none", INDEX, () -> mill.addKnot(number, 0, 0, 0, 1));
            Check.refused(mill, "addRot of none", INDEX, () -> mill.addRot(number, 0, 1));
            Check.refused(mill, "addMetal of none", INDEX, () -> mill.addMetal(number, 0, 0, 0));
            Check.refused(mill, "scan of none", INDEX, () -> mill.scan(number, 's'));
            Check.refused(mill, "volumeOf of none", INDEX, () -> mill.volumeOf(number));
            Check.refused(mill, "seenAt of none", INDEX, () -> mill.seenAt(number, 0, 0, 0));
            Check.refused(mill, "plan of none", INDEX, () -> mill.plan(number));
            Check.refused(mill, "planned of none", INDEX, () -> mill.planned(number));
            Check.refused(mill, "plannedAt of none", INDEX, () -> mill.plannedAt(number, 0, 'x'));
            Check.refused(mill, "saw of none", INDEX, () -> mill.saw(number));
            Check.refused(mill, "partOf of none", INDEX, () -> mill.partOf(number, 'x'));
            Check.refused(mill, "inBoard of none", INDEX, () -> mill.inBoard(number, 'v'));
            Check.refused(mill, "gradeOf of none", INDEX, () -> mill.gradeOf(number));
            Check.refused(mill, "stateOf of none", INDEX, () -> mill.stateOf(number));
            Check.refused(mill, "logOf of none", INDEX, () -> mill.logOf(number));
            Check.refused(mill, "trim of none", INDEX, () -> mill.trim(number, 0, 2));
            Check.refused(mill, "rip of none", INDEX, () -> mill.rip(number, 0, 3));
            Check.refused(mill, "moisture of none", INDEX, () -> mill.moisture(number));
            Check.refused(mill, "hasChecks of none", INDEX, () -> mill.hasChecks(number));
            Check.refused(mill, "soldAs of none", INDEX, () -> mill.soldAs(number));
            Check.refused(mill, "deliver of none", INDEX, () -> mill.deliver(number));
        }
    }

    public static void main(String[] args) {
        promise2();
        promise3();
        promise4();
        promise5();
        promise6();
        promises7To9();
        promises10And11();
        promises12To15();
        promises20To24();
        promise25();
        promise26();
        promise27();
        promises29To32();
        promises35And36();
        promise37();
        promises38And39();
        nothingThere();
        Check.end("RangeTest");
    }
}
