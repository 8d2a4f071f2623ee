import java.util.NoSuchElementException;

/** Promises 10 to 14: rules, prices and plans. */
public final class PlanTest {
    private static final Class<IndexOutOfBoundsException> INDEX = IndexOutOfBoundsException.class;
    private static final Class<IllegalArgumentException> ARGUMENT = IllegalArgumentException.class;
    private static final Class<UnsupportedOperationException> UNSUPPORTED = UnsupportedOperationException.class;
    private static final Class<NoSuchElementException> MISSING = NoSuchElementException.class;

    private PlanTest() {
    }

    /**
     * A log of the diameter 4 has wood in the rows 6 to 9 of the columns 7 and 8, and 7 and 8 of the columns 6 and 9;
     * its best board is of the columns 7 and 8.
     */
    private static Kerfhall millWithThinLog(String scans) {
        return Mills.ofLogs(1, 4, scans);
    }

    private static void promise10SetRule() {
        Kerfhall mill = millWithThinLog("sr");
        Check.due("wane of rule 0", mill.setRule(0, 5, 2, false, false), 0);
        Check.due("wane of rule 0 now", mill.setRule(0, 0, 2, false, false), 5);
        Check.due("wane of rule 1", mill.setRule(1, 10, 6, false, true), 10);
        Check.due("wane of rule 2", mill.setRule(2, 30, 20, true, true), 30);
        Check.due("edges", mill.setRule(2, 100, 256, true, true), 30);
        Check.due("edges", mill.setRule(2, 0, 0, false, false), 100);
        Check.refused(mill, "grade -1", ARGUMENT, () -> mill.setRule(-1, 0, 0, true, true));
        Check.refused(mill, "grade 3", ARGUMENT, () -> mill.setRule(3, 0, 0, true, true));
        Check.refused(mill, "wane -1", ARGUMENT, () -> mill.setRule(0, -1, 0, true, true));
        Check.refused(mill, "wane 101", ARGUMENT, () -> mill.setRule(0, 101, 0, true, true));
        Check.refused(mill, "knots -1", ARGUMENT, () -> mill.setRule(0, 0, -1, true, true));
        Check.refused(mill, "knots 257", ARGUMENT, () -> mill.setRule(0, 0, 257, true, true));
        Check.due("nothing changed", mill.setRule(2, 30, 20, true, true), 0);
    }

    private static void promise10RulesInPlans() {
        Kerfhall knotty = millWithThinLog("sr");
        for (int slice = 0; slice < 6; slice++) {
            knotty.addKnot(0, slice, 7, 7, 2);
        }
        Check.due("4 knots are of grade 1", knotty.plan(0), 240);
        knotty.setRule(0, 0, 4, false, false);
        Check.due("4 knots are of grade 0 by the rule", knotty.plan(0), 480);
        knotty.setRule(0, 0, 3, false, false);
        knotty.setRule(1, 10, 3, false, true);
        Check.due("4 knots are of grade 2 by the rules", knotty.plan(0), 216);
        Kerfhall rotten = millWithThinLog("sr");
        for (int slice = 0; slice < 6; slice++) {
            rotten.addRot(0, slice, 1);
        }
        rotten.setPrice(3, 2, 0);
        Check.due("rot is of grade 2, as is some wane", rotten.plan(0), 120);
        rotten.setRule(1, 10, 6, true, true);
        Check.due("rot is of grade 1 by the rule", rotten.plan(0), 240);
        rotten.setRule(1, 10, 6, false, true);
        rotten.setRule(2, 30, 20, false, true);
        Check.due("rot is refused by the rules", rotten.plan(0), 0);
        Check.due("what is worth nothing is not cut", rotten.planned(0), 0);
        Kerfhall waney = millWithThinLog("s");
        waney.setRule(0, 20, 2, false, false);
        // 12 of 72 cells are wane in 3 columns of 4 rows, and 12 of 60 in 2 columns of 5 rows.
        Check.due("wane of a fifth at most", waney.plan(0), 864);
        waney.setRule(0, 16, 2, false, false);
        Check.due("wane of 16 percent at most, so 3 rows", waney.plan(0), 648);
        waney.setRule(0, 11, 2, false, false);
        Check.due("wane of 11 percent at most", waney.plan(0), 480);
    }

    private static void promise10StainInPlans() {
        Kerfhall mill = millWithThinLog("s");
        mill.setWeather(true, false);
        mill.tick(10);
        Check.due("10 warm ticks do not stain", mill.plan(0), 480);
        mill.tick(1);
        Check.due("11 warm ticks stain", mill.plan(0), 240);
        mill.setRule(0, 0, 2, false, true);
        Check.due("stain is allowed", mill.plan(0), 480);
        mill.setRule(0, 0, 2, false, false);
        mill.setRule(1, 10, 6, false, false);
        Check.due("stain is of grade 2", mill.plan(0), 216);
    }

    private static void promise11SetPrice() {
        Kerfhall mill = millWithThinLog("s");
        int[][] first = {{10, 5, 2}, {12, 6, 3}};
        for (int thickness = 2; thickness <= 3; thickness++) {
            for (int grade = 0; grade < 3; grade++) {
                Check.due("first price", mill.setPrice(thickness, grade, 99), first[thickness - 2][grade]);
                Check.due("price then", mill.setPrice(thickness, grade, first[thickness - 2][grade]), 99);
            }
        }
        mill.setPrice(2, 0, 11);
        Check.due("worth by the price", mill.plan(0), 528);
        mill.setPrice(3, 2, 99);
        Check.due("worth by the price of 3", Mills.planOf(mill, 0), "7128 | 7 3 6 4 0 6");
        Check.refused(mill, "thickness 1", ARGUMENT, () -> mill.setPrice(1, 0, 0));
        Check.refused(mill, "thickness 4", ARGUMENT, () -> mill.setPrice(4, 0, 0));
        Check.refused(mill, "grade 3", ARGUMENT, () -> mill.setPrice(2, 3, 0));
        Check.refused(mill, "grade -1", ARGUMENT, () -> mill.setPrice(2, -1, 0));
        Check.refused(mill, "price -1", ARGUMENT, () -> mill.setPrice(2, 0, -1));
        Check.refused(mill, "price 100", ARGUMENT, () -> mill.setPrice(2, 0, 100));
        Check.due("nothing changed", mill.setPrice(2, 0, 0), 11);
    }

    private static void promise12Plan() {
        Check.due("the least log", Mills.planOf(millWithThinLog("s"), 0), "480 | 7 2 6 4 0 6");
        Check.due("two boards", Mills.ofLogs(1, 8, "s").plan(0), 2208);
        Kerfhall mill = millWithThinLog("");
        Check.refused(mill, "not scanned", UNSUPPORTED, () -> mill.plan(0));
        mill.scan(0, 'r');
        mill.scan(0, 'm');
        Check.refused(mill, "not scanned by 's' or 'l'", UNSUPPORTED, () -> mill.plan(0));
        Check.refused(mill, "log 1", INDEX, () -> mill.plan(1));
        Check.refused(mill, "log -1", INDEX, () -> mill.plan(-1));
        mill.scan(0, 'l');
        Check.due("scanned by 'l' alone", mill.plan(0), 480);
        mill.saw(0);
        Check.refused(mill, "sawn", UNSUPPORTED, () -> mill.plan(0));
    }

    private static void promise12BySight() {
        Kerfhall swept = millWithThinLog("s");
        for (int slice = 0; slice < 6; slice++) {
            swept.setSweep(0, slice, -2, 2);
        }
        Check.due("sweep is not seen", Mills.planOf(swept, 0), "480 | 7 2 6 4 0 6");
        swept.scan(0, 'l');
        Check.due("sweep is seen", Mills.planOf(swept, 0), "480 | 5 2 8 4 0 6");
        Kerfhall metal = millWithThinLog("s");
        metal.addMetal(0, 3, 8, 8);
        Check.due("metal is not seen", Mills.planOf(metal, 0), "480 | 7 2 6 4 0 6");
        metal.scan(0, 'm');
        Check.due("metal is seen", Mills.planOf(metal, 0), "240 | 7 2 6 4 0 3");
        metal.addMetal(0, 0, 7, 7);
        metal.addMetal(0, 1, 7, 7);
        Check.due("metal behind the scan is seen", Mills.planOf(metal, 0), "160 | 7 2 6 4 4 2");
    }

    private static void promise12Ties() {
        Kerfhall mill = millWithThinLog("s");
        mill.setPrice(2, 0, 0);
        // The columns 6 to 8 and 7 to 9 are worth the same: none from the column 6 on goes first.
        Check.due("first of the cuttings", Mills.planOf(mill, 0), "216 | 7 3 6 4 0 6");
        Kerfhall split = millWithThinLog("sm");
        split.addMetal(0, 2, 8, 8);
        split.addMetal(0, 3, 8, 8);
        Check.due("lowest first slice", Mills.planOf(split, 0), "160 | 7 2 6 4 0 2");
        split.addRot(0, 0, 1);
        split.scan(0, 'r');
        Check.due("a later slice", Mills.planOf(split, 0), "160 | 7 2 6 4 4 2");
        // Two columns of 3 rows and 6 slices are worth what 9 rows and 2 slices are: the lowest row goes first.
        Kerfhall rows = Mills.ofLogs(1, 16, "sm");
        for (int slice = 0; slice < 6; slice++) {
            for (int x = 0; x < 16; x++) {
                rows.addMetal(0, slice, x, 7);
                rows.addMetal(0, slice, x, 8);
            }
        }
        rows.setPrice(3, 0, 0);
        rows.setPrice(3, 1, 0);
        rows.setPrice(3, 2, 0);
        Check.due("lowest row of the middle board", rows.plannedAt(0, 2, 'y'), 0);
        Check.due("width of the middle board", rows.plannedAt(0, 2, 'w'), 7);
        Kerfhall thicker = millWithThinLog("s");
        thicker.setPrice(2, 0, 9);
        thicker.setPrice(3, 2, 6);
        Check.due("2 columns and 3 are worth the same", Mills.planOf(thicker, 0), "432 | 7 2 6 4 0 6");
    }

    private static void promise13Planned() {
        Check.due("boards of the least log", millWithThinLog("s").planned(0), 1);
        Check.due("boards of a log", Mills.ofLogs(1, 8, "s").planned(0), 2);
        Kerfhall mill = millWithThinLog("rm");
        Check.refused(mill, "not scanned by 's' or 'l'", UNSUPPORTED, () -> mill.planned(0));
        Check.refused(mill, "log 1", INDEX, () -> mill.planned(1));
        mill.scan(0, 's');
        mill.saw(0);
        Check.refused(mill, "sawn", UNSUPPORTED, () -> mill.planned(0));
    }

    private static void promise14PlannedAt() {
        Kerfhall mill = Mills.ofLogs(1, 8, "s");
        Check.due("two boards", Mills.planOf(mill, 0), "2208 | 6 3 4 8 0 6 | 10 2 6 4 0 6");
        Check.refused(mill, "index 2", MISSING, () -> mill.plannedAt(0, 2, 'x'));
        Check.refused(mill, "index -1", MISSING, () -> mill.plannedAt(0, -1, 'x'));
        Check.refused(mill, "no such letter", ARGUMENT, () -> mill.plannedAt(0, 9, 'v'));
        Check.refused(mill, "no such log", INDEX, () -> mill.plannedAt(1, 9, 'v'));
        Kerfhall unseen = Mills.ofLogs(1, 8, "rm");
        Check.refused(unseen, "not scanned", UNSUPPORTED, () -> unseen.plannedAt(0, 9, 'x'));
        Check.refused(unseen, "not scanned, and no such letter", ARGUMENT, () -> unseen.plannedAt(0, 9, 'X'));
        mill.saw(0);
        Check.refused(mill, "sawn", UNSUPPORTED, () -> mill.plannedAt(0, 0, 'x'));
    }

    /** A plan that was asked for does not outlive what it was made of. */
    private static void plansAreAsOfNow() {
        Kerfhall mill = millWithThinLog("srm");
        mill.addLog(8, 8, false);
        mill.scan(1, 's');
        Check.due("one log", mill.plan(0), 480);
        Check.due("the other log", mill.plan(1), 2208);
        Check.due("the first again", mill.plan(0), 480);
        mill.addRot(0, 0, 1);
        Check.due("with rot", Mills.planOf(mill, 0), "400 | 7 2 6 4 1 5");
        mill.addKnot(0, 1, 7, 6, 4);
        Check.due("with a knot", Mills.planOf(mill, 0), "320 | 7 2 6 4 2 4");
        mill.addMetal(0, 2, 7, 7);
        Check.due("with metal", Mills.planOf(mill, 0), "240 | 7 2 6 4 3 3");
        mill.scan(0, 'l');
        Check.due("no sweep yet", Mills.planOf(mill, 0), "240 | 7 2 6 4 3 3");
        mill.setSweep(0, 5, 2, 2);
        Check.due("with sweep", Mills.planOf(mill, 0), "160 | 7 2 6 4 3 2");
    }

    /** The grade, by the first rules, of a board that is all wood and has some knots, unseen, in each slice. */
    private static int gradeByKnots(int knots) {
        Kerfhall mill = Mills.ofLogs(1, 16, "s");
        int board = 1;
        int thickness = mill.plannedAt(0, board, 't');
        for (int knot = 0; knot < knots; knot++) {
            int x = mill.plannedAt(0, board, 'x') + knot % thickness;
            int y = mill.plannedAt(0, board, 'y') + knot / thickness;
            for (int slice = 0; slice < 6; slice++) {
                mill.addKnot(0, slice, x, y, 1);
            }
        }
        mill.saw(0);
        Check.due("wane", mill.inBoard(board, 'n'), 0);
        Check.due("knots", mill.inBoard(board, 'k'), knots);
        return mill.gradeOf(board);
    }

    private static void promise10FirstRules() {
        int[] knots = {0, 2, 3, 6, 7, 20, 21, 24};
        int[] grades = {0, 0, 1, 1, 2, 2, 3, 3};
        for (int index = 0; index < knots.length; index++) {
            Check.due("grade of " + knots[index] + " knots", gradeByKnots(knots[index]), grades[index]);
        }
    }

    private static void promise12OneCellOfRot() {
        Kerfhall mill = millWithThinLog("sr");
        mill.setSweep(0, 0, 2, 0);
        mill.addRot(0, 0, 1);
        mill.setSweep(0, 0, 2, 2);
        // The rot of the slice 0 is now in the columns and rows 9 and 10: the board of 3 columns has one cell.
        mill.setPrice(2, 0, 0);
        Check.due("one cell of rot, and wane", mill.plan(0), 216);
        mill.setRule(2, 30, 20, false, true);
        Check.due("one cell of rot, not allowed", Mills.planOf(mill, 0), "216 | 6 3 6 4 0 6");
    }

    public static void main(String[] args) {
        promise10SetRule();
        promise10RulesInPlans();
        promise10StainInPlans();
        promise10FirstRules();
        promise11SetPrice();
        promise12Plan();
        promise12BySight();
        promise12Ties();
        promise12OneCellOfRot();
        promise13Planned();
        promise14PlannedAt();
        plansAreAsOfNow();
        Check.end("PlanTest");
    }
}
