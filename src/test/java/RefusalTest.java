import java.util.NoSuchElementException;

/**
 * Each exception that a promise names, and where several of them apply, the one that is listed first; no such call
 * changes anything.
 */
public final class RefusalTest {
    private static final Class<IndexOutOfBoundsException> INDEX = IndexOutOfBoundsException.class;
    private static final Class<IllegalArgumentException> ARGUMENT = IllegalArgumentException.class;
    private static final Class<UnsupportedOperationException> UNSUPPORTED = UnsupportedOperationException.class;
    private static final Class<IllegalStateException> STATE = IllegalStateException.class;
    private static final Class<NoSuchElementException> MISSING = NoSuchElementException.class;

    private RefusalTest() {
    }

    /** Log 0 is sawn, log 1 lies and was scanned, log 2 lies and was scanned by 'r' and 'm' alone. */
    private static Kerfhall sawnSeenAndUnseen() {
        Kerfhall mill = Mills.ofLogs(1, 4, "s");
        mill.saw(0);
        Mills.addLog(mill, 8, false, "sl");
        Mills.addLog(mill, 8, false, "rm");
        return mill;
    }

    private static void promise2AddLog() {
        Kerfhall mill = Mills.ofLogs(9, 4, "");
        Check.due("a tenth log", mill.addLog(16, 4, true), 9);
        Check.refused(mill, "addLog: an eleventh log", STATE, () -> mill.addLog(16, 16, false));
        Check.refused(mill, "addLog: an eleventh log that is too thin", ARGUMENT, () -> mill.addLog(3, 3, false));
        Check.refused(mill, "addLog: an eleventh log that is too thick", ARGUMENT, () -> mill.addLog(17, 4, false));
        Check.refused(mill, "addLog: an eleventh log with a thick top", ARGUMENT, () -> mill.addLog(4, 5, false));
        mill.scan(0, 's');
        mill.saw(0);
        Check.refused(mill, "addLog: a sawn log counts", STATE, () -> mill.addLog(4, 4, true));
    }

    private static void promise3SetSweep() {
        Kerfhall mill = sawnSeenAndUnseen();
        Check.refused(mill, "setSweep: no log, slice, sweep", INDEX, () -> mill.setSweep(3, 6, 3, 3));
        Check.refused(mill, "setSweep: no log, though a slice", INDEX, () -> mill.setSweep(-1, 0, 0, 0));
        Check.refused(mill, "setSweep: no slice, wrong sweep, sawn", INDEX, () -> mill.setSweep(0, 6, -3, 0));
        Check.refused(mill, "setSweep: no slice, sawn", INDEX, () -> mill.setSweep(0, -1, 0, 0));
        Check.refused(mill, "setSweep: wrong dx, sawn", ARGUMENT, () -> mill.setSweep(0, 0, 3, 0));
        Check.refused(mill, "setSweep: wrong dy, sawn", ARGUMENT, () -> mill.setSweep(0, 5, 0, -3));
        Check.refused(mill, "setSweep: wrong dx and dy", ARGUMENT, () -> mill.setSweep(1, 5, 3, -3));
        Check.refused(mill, "setSweep: sawn", UNSUPPORTED, () -> mill.setSweep(0, 5, 2, -2));
        Check.allowed("setSweep: not scanned", () -> mill.setSweep(2, 5, 2, -2));
    }

    private static void promise4AddKnot() {
        Kerfhall mill = sawnSeenAndUnseen();
        Check.refused(mill, "addKnot: no log, slice, cell", INDEX, () -> mill.addKnot(3, 6, 16, 16, 5));
        Check.refused(mill, "addKnot: no slice, cell, sawn", INDEX, () -> mill.addKnot(0, 6, -1, 0, 1));
        Check.refused(mill, "addKnot: no slice, sawn", INDEX, () -> mill.addKnot(0, -1, 0, 0, 1));
        Check.refused(mill, "addKnot: no cell x, sawn", ARGUMENT, () -> mill.addKnot(0, 0, 15, 0, 2));
        Check.refused(mill, "addKnot: no cell y, sawn", ARGUMENT, () -> mill.addKnot(0, 0, 0, 14, 3));
        Check.refused(mill, "addKnot: wrong size, sawn", ARGUMENT, () -> mill.addKnot(0, 0, 0, 0, 5));
        Check.refused(mill, "addKnot: wrong size at no cell", ARGUMENT, () -> mill.addKnot(1, 0, 16, 16, 0));
        Check.refused(mill, "addKnot: sawn", UNSUPPORTED, () -> mill.addKnot(0, 0, 7, 7, 1));
        Check.allowed("addKnot: not scanned", () -> mill.addKnot(2, 0, 7, 7, 1));
    }

    private static void promise5AddRot() {
        Kerfhall mill = sawnSeenAndUnseen();
        Check.refused(mill, "addRot: no log, slice, radius", INDEX, () -> mill.addRot(3, 6, 9));
        Check.refused(mill, "addRot: no slice, radius, sawn", INDEX, () -> mill.addRot(0, 6, 0));
        Check.refused(mill, "addRot: no slice, sawn", INDEX, () -> mill.addRot(0, -1, 1));
        Check.refused(mill, "addRot: wrong radius, sawn", ARGUMENT, () -> mill.addRot(0, 0, 9));
        Check.refused(mill, "addRot: sawn", UNSUPPORTED, () -> mill.addRot(0, 0, 1));
        Check.allowed("addRot: not scanned", () -> mill.addRot(2, 0, 1));
    }

    private static void promise6AddMetal() {
        Kerfhall mill = sawnSeenAndUnseen();
        Check.refused(mill, "addMetal: no log, slice, cell", INDEX, () -> mill.addMetal(3, 6, 16, 16));
        Check.refused(mill, "addMetal: no slice, cell, sawn", INDEX, () -> mill.addMetal(0, 6, -1, 0));
        Check.refused(mill, "addMetal: no slice, sawn", INDEX, () -> mill.addMetal(0, -1, 0, 0));
        Check.refused(mill, "addMetal: no cell x, sawn", ARGUMENT, () -> mill.addMetal(0, 0, 16, 0));
        Check.refused(mill, "addMetal: no cell y, sawn", ARGUMENT, () -> mill.addMetal(0, 0, 0, -1));
        Check.refused(mill, "addMetal: sawn", UNSUPPORTED, () -> mill.addMetal(0, 0, 7, 7));
        Check.allowed("addMetal: not scanned", () -> mill.addMetal(2, 0, 7, 7));
    }

    private static void promise7Scan() {
        Kerfhall mill = sawnSeenAndUnseen();
        Check.refused(mill, "scan: no log, kind", INDEX, () -> mill.scan(3, 'x'));
        Check.refused(mill, "scan: no kind, sawn", ARGUMENT, () -> mill.scan(0, 'x'));
        Check.refused(mill, "scan: sawn, and scanned so", UNSUPPORTED, () -> mill.scan(0, 's'));
        Check.refused(mill, "scan: sawn, and not scanned so", UNSUPPORTED, () -> mill.scan(0, 'l'));
    }

    private static void promise8And9VolumeOfSeenAt() {
        Kerfhall mill = sawnSeenAndUnseen();
        Check.allowed("volumeOf: sawn", () -> mill.volumeOf(0));
        Check.allowed("volumeOf: not scanned", () -> mill.volumeOf(2));
        Check.refused(mill, "seenAt: no log, slice, cell", INDEX, () -> mill.seenAt(3, 6, 16, 16));
        Check.refused(mill, "seenAt: no slice, cell, not scanned", INDEX, () -> mill.seenAt(2, 6, 16, 0));
        Check.refused(mill, "seenAt: no slice, not scanned", INDEX, () -> mill.seenAt(2, -1, 0, 0));
        Check.refused(mill, "seenAt: no cell x, not scanned", ARGUMENT, () -> mill.seenAt(2, 0, 16, 0));
        Check.refused(mill, "seenAt: no cell y, not scanned", ARGUMENT, () -> mill.seenAt(2, 0, 0, -1));
        Check.refused(mill, "seenAt: scanned by 'r' and 'm' alone", UNSUPPORTED, () -> mill.seenAt(2, 0, 7, 7));
        Check.due("seenAt: sawn", mill.seenAt(0, 0, 7, 7), 'w');
    }

    private static void promise10And11Numbers() {
        Kerfhall mill = new Kerfhall();
        Check.refused(mill, "setRule: all numbers", ARGUMENT, () -> mill.setRule(3, 101, 257, true, true));
        Check.refused(mill, "setPrice: all numbers", ARGUMENT, () -> mill.setPrice(1, 3, 100));
    }

    private static void promise12To14Plan() {
        Kerfhall mill = sawnSeenAndUnseen();
        Check.refused(mill, "plan: sawn", UNSUPPORTED, () -> mill.plan(0));
        Check.refused(mill, "plan: not scanned", UNSUPPORTED, () -> mill.plan(2));
        Check.refused(mill, "planned: sawn", UNSUPPORTED, () -> mill.planned(0));
        Check.refused(mill, "planned: not scanned", UNSUPPORTED, () -> mill.planned(2));
        Check.refused(mill, "plannedAt: no log, letter, board", INDEX, () -> mill.plannedAt(3, 9, 'v'));
        Check.refused(mill, "plannedAt: no letter, sawn, no board", ARGUMENT, () -> mill.plannedAt(0, 9, 'v'));
        Check.refused(mill, "plannedAt: no letter, not scanned", ARGUMENT, () -> mill.plannedAt(2, 0, 'v'));
        Check.refused(mill, "plannedAt: no letter, no board", ARGUMENT, () -> mill.plannedAt(1, 9, 'v'));
        Check.refused(mill, "plannedAt: sawn, no board", UNSUPPORTED, () -> mill.plannedAt(0, 9, 'x'));
        Check.refused(mill, "plannedAt: sawn", UNSUPPORTED, () -> mill.plannedAt(0, 0, 'x'));
        Check.refused(mill, "plannedAt: not scanned, no board", UNSUPPORTED, () -> mill.plannedAt(2, -1, 'x'));
        Check.refused(mill, "plannedAt: no board", MISSING, () -> mill.plannedAt(1, 2, 'x'));
        Mills.setPrices(mill, 0, 0);
        Check.refused(mill, "plannedAt: a plan without boards", MISSING, () -> mill.plannedAt(1, 0, 'x'));
    }

    private static void promise15Saw() {
        Kerfhall mill = sawnSeenAndUnseen();
        Check.refused(mill, "saw: sawn", UNSUPPORTED, () -> mill.saw(0));
        Check.refused(mill, "saw: not scanned", UNSUPPORTED, () -> mill.saw(2));
        Mills.addLog(mill, 4, false, "s");
        mill.addMetal(3, 0, 7, 7);
        mill.saw(3);
        Check.refused(mill, "saw: no log, stopped", INDEX, () -> mill.saw(4));
        Check.refused(mill, "saw: sawn, stopped", UNSUPPORTED, () -> mill.saw(0));
        Check.refused(mill, "saw: not scanned, stopped", UNSUPPORTED, () -> mill.saw(2));
        Check.refused(mill, "saw: stopped", STATE, () -> mill.saw(1));
        mill.tick(5);
        Check.due("the log is there still", mill.saw(1), 2);
    }

    private static void promise20And21Parts() {
        Kerfhall mill = Mills.ofBoards(1);
        Check.refused(mill, "partOf: no board, letter", INDEX, () -> mill.partOf(1, 'v'));
        Check.refused(mill, "partOf: no letter", ARGUMENT, () -> mill.partOf(0, 'v'));
        Check.refused(mill, "inBoard: no board, letter", INDEX, () -> mill.inBoard(-1, 'x'));
        Check.refused(mill, "inBoard: no letter", ARGUMENT, () -> mill.inBoard(0, 'x'));
    }

    /** Boards 0 to 3 are delivered, in the yard, in the kiln and in the queue. */
    private static Kerfhall everywhere() {
        Kerfhall mill = Mills.ofLogs(4, 4, "s");
        Mills.feedKiln(mill, 4);
        mill.setStep(0, 9);
        for (int log = 0; log < 3; log++) {
            mill.saw(log);
            mill.tick(1);
            mill.charge(0);
            mill.tick(5);
            if (log < 2) {
                mill.empty();
            }
        }
        mill.saw(3);
        mill.addOrder(2, 3, 6, 0, 1, false);
        mill.deliver(0);
        return mill;
    }

    private static void promise25And26TrimRip() {
        Kerfhall mill = Mills.ofRottenBoards(3);
        Mills.feedKiln(mill, 3);
        mill.setStep(0, 9);
        mill.tick(1);
        mill.charge(0);
        mill.tick(5);
        mill.empty();
        mill.addOrder(2, 3, 6, 0, 1, false);
        mill.deliver(0);
        mill.charge(0);
        Check.due("delivered, and in the kiln", Mills.statesOf(mill), "dkk");
        for (int board = 0; board < 2; board++) {
            int cut = board;
            Check.refused(mill, "trim: no slices there", ARGUMENT, () -> mill.trim(cut, 5, 2));
            Check.refused(mill, "trim: one slice there", ARGUMENT, () -> mill.trim(cut, 0, 1));
            Check.refused(mill, "trim: there", UNSUPPORTED, () -> mill.trim(cut, 0, 2));
            Check.refused(mill, "trim: to all there", UNSUPPORTED, () -> mill.trim(cut, 0, 6));
            Check.refused(mill, "rip: no rows there", ARGUMENT, () -> mill.rip(cut, 8, 3));
            Check.refused(mill, "rip: two rows there", ARGUMENT, () -> mill.rip(cut, 6, 2));
            Check.refused(mill, "rip: there", UNSUPPORTED, () -> mill.rip(cut, 6, 3));
            Check.refused(mill, "rip: to all there", UNSUPPORTED, () -> mill.rip(cut, 6, 4));
        }
        Check.refused(mill, "trim: no board, slices", INDEX, () -> mill.trim(3, 9, 0));
        Check.refused(mill, "rip: no board, rows", INDEX, () -> mill.rip(-1, 9, 0));
    }

    private static void promise30And32Bins() {
        Kerfhall mill = Mills.ofBins();
        Check.due("emptied", mill.charge(1), 1);
        Check.refused(mill, "classOf: no bin", INDEX, () -> mill.classOf(4));
        Check.refused(mill, "classOf: empty", MISSING, () -> mill.classOf(1));
        Check.refused(mill, "charge: no bin, full kiln", INDEX, () -> mill.charge(4));
        Check.refused(mill, "charge: no bin, full kiln", INDEX, () -> mill.charge(-1));
        Check.refused(mill, "charge: empty bin, full kiln", UNSUPPORTED, () -> mill.charge(1));
        Check.refused(mill, "charge: full kiln", STATE, () -> mill.charge(0));
        mill.empty();
        Check.refused(mill, "charge: empty bin, empty kiln", UNSUPPORTED, () -> mill.charge(1));
        Check.allowed("charge: empty kiln", () -> mill.charge(0));
    }

    private static void promise27And31Numbers() {
        Kerfhall mill = Mills.ofBins();
        Check.refused(mill, "tick: none", ARGUMENT, () -> mill.tick(0));
        Check.refused(mill, "setStep: both", ARGUMENT, () -> mill.setStep(4, 10));
    }

    private static void promise33And34ConditionEmpty() {
        Kerfhall mill = Mills.ofBoards(1);
        Check.refused(mill, "condition: enough, no boards", STATE, () -> mill.condition());
        Check.refused(mill, "empty: no boards", STATE, () -> mill.empty());
        mill.tick(1);
        mill.charge(0);
        mill.tick(5);
        Check.due("left", Mills.heatOf(mill), "0 dust, 4 chips, 20 burnt");
        Check.refused(mill, "condition: not enough", UNSUPPORTED, () -> mill.condition());
        mill.empty();
        Check.refused(mill, "condition: not enough, no boards", UNSUPPORTED, () -> mill.condition());
        Check.refused(mill, "empty: no boards any more", STATE, () -> mill.empty());
    }

    private static void promise37AddOrder() {
        Kerfhall mill = new Kerfhall();
        for (int order = 0; order < 8; order++) {
            Check.due("number", mill.addOrder(3, 3, 200, 20, 99, true), order);
        }
        Check.refused(mill, "addOrder: a ninth one", STATE, () -> mill.addOrder(2, 0, 1, 0, 0, false));
        Check.refused(mill, "addOrder: thickness of a ninth", ARGUMENT, () -> mill.addOrder(4, 0, 1, 0, 0, false));
        Check.refused(mill, "addOrder: grade of a ninth", ARGUMENT, () -> mill.addOrder(2, 4, 1, 0, 0, false));
        Check.refused(mill, "addOrder: length of a ninth", ARGUMENT, () -> mill.addOrder(2, 0, 0, 0, 0, false));
        Check.refused(mill, "addOrder: tolerance of a ninth", ARGUMENT, () -> mill.addOrder(2, 0, 1, 21, 0, false));
        Check.refused(mill, "addOrder: price of a ninth", ARGUMENT, () -> mill.addOrder(2, 0, 1, 0, 100, false));
        Check.refused(mill, "addOrder: all of a ninth", ARGUMENT, () -> mill.addOrder(1, -1, 201, -1, -1, false));
    }

    private static void promise38Deliver() {
        Kerfhall mill = Mills.ofYard(2);
        mill.addOrder(2, 3, 6, 0, 5, false);
        mill.addOrder(2, 3, 12, 0, 5, false);
        mill.addOrder(2, 3, 6, 0, 5, true);
        Check.refused(mill, "deliver: no order", INDEX, () -> mill.deliver(3));
        Check.refused(mill, "deliver: not certified", UNSUPPORTED, () -> mill.deliver(2));
        Check.due("deliver", mill.deliver(0), 6);
        Check.refused(mill, "deliver: delivered, though it could be", UNSUPPORTED, () -> mill.deliver(0));
        Check.refused(mill, "deliver: too little is left", UNSUPPORTED, () -> mill.deliver(1));
    }

    private static void promise39SoldAs() {
        Kerfhall mill = everywhere();
        Check.due("states", Mills.statesOf(mill), "dykq");
        Check.due("soldAs", mill.soldAs(0), 1);
        Check.refused(mill, "soldAs: in the yard", MISSING, () -> mill.soldAs(1));
        Check.refused(mill, "soldAs: in the kiln", MISSING, () -> mill.soldAs(2));
        Check.refused(mill, "soldAs: in the queue", MISSING, () -> mill.soldAs(3));
        Check.refused(mill, "soldAs: no board", INDEX, () -> mill.soldAs(4));
        mill.tick(1);
        Check.refused(mill, "soldAs: in a bin", MISSING, () -> mill.soldAs(3));
    }

    private static void promise47And48Means() {
        Kerfhall mill = Mills.ofLogs(1, 4, "s");
        Check.refused(mill, "yieldShare: none sawn", MISSING, () -> mill.yieldShare());
        Check.refused(mill, "meanMoisture: no boards", MISSING, () -> mill.meanMoisture());
        Mills.setPrices(mill, 0, 0);
        mill.saw(0);
        Check.due("yieldShare: sawn without boards", mill.yieldShare(), 0f);
        Check.refused(mill, "meanMoisture: sawn without boards", MISSING, () -> mill.meanMoisture());
    }

    public static void main(String[] args) {
        promise2AddLog();
        promise3SetSweep();
        promise4AddKnot();
        promise5AddRot();
        promise6AddMetal();
        promise7Scan();
        promise8And9VolumeOfSeenAt();
        promise10And11Numbers();
        promise12To14Plan();
        promise15Saw();
        promise20And21Parts();
        promise25And26TrimRip();
        promise30And32Bins();
        promise27And31Numbers();
        promise33And34ConditionEmpty();
        promise37AddOrder();
        promise38Deliver();
        promise39SoldAs();
        promise47And48Means();
        Check.end("RefusalTest");
    }
}
