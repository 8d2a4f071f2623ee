import java.util.NoSuchElementException;

/** Promises 10 to 14: rules, prices and plans. */
public final class PlanTest {
    private static final Class<IndexOutOfBoundsException> INDEX = IndexOutOfBoundsException.class;
    private static final Class<IllegalArgumentException> ARGUMENT = IllegalArgumentException.class;
    private static final Class<UnsupportedOperationException> UNSUPPORTED = UnsupportedOperationException.class;
    private static final Class<NoSuchElementException> MISSING = NoSuchElementException.class;

    private PlanTest() {
    }

    /**
     * A log of the diameter 4 has wood in the rows 6 to 9 of the columns 7 and 8, and 7 and 8 of the columns 6 and 9;
     * its best board is of the columns 7 and 8.
     */
    private static Kerfhall millWithThinLog(String scans) {
        return millWithLog(4, scans);
    }

    private static Kerfhall millWithLog(int diameter, String scans) {
        Kerfhall mill = new Kerfhall();
        mill.addLog(diameter, diameter, false);
        for (char kind : scans.toCharArray()) {
            mill.scan(0, kind);
        }
        return mill;
    }

    private static String planOf(Kerfhall mill, int log) {
        StringBuilder all = new StringBuilder();
        all.append(mill.plan(log));
        for (int index = 0; index < mill.planned(log); index++) {
            all.append(" |");
            for (char what : "xtywsl".toCharArray()) {
                all.append(' ').append(mill.plannedAt(log, index, what));
            }
        }
        return all.toString();
    }

    private static void promise10SetRule() {
        Kerfhall mill = millWithThinLog("sr");
        Check.due("wane of rule 0", mill.setRule(0, 5, 2, false, false), 0);
        Check.due("wane of rule 0 now", mill.setRule(0, 0, 2, false, false), 5);
        Check.due("wane of rule 1", mill.setRule(1, 10, 6, false, true), 10);
        Check.due("wane of rule 2", mill.setRule(2, 30, 20, true, true), 30);
        Check.due("edges", mill.setRule(2, 100, 256, true, true), 30);
        Check.due("edges", mill.setRule(2, 0, 0, false, false), 100);
        Check.refused("grade -1", ARGUMENT, () -> mill.setRule(-1, 0, 0, true, true));
        Check.refused("grade 3", ARGUMENT, () -> mill.setRule(3, 0, 0, true, true));
        Check.refused("wane -1", ARGUMENT, () -> mill.setRule(0, -1, 0, true, true));
        Check.refused("wane 101", ARGUMENT, () -> mill.setRule(0, 101, 0, true, true));
        Check.refused("knots -1", ARGUMENT, () -> mill.setRule(0, 0, -1, true, true));
        Check.refused("knots 257", ARGUMENT, () -> mill.setRule(0, 0, 257, true, true));
        Check.due("nothing changed", mill.setRule(2, 30, 20, true, true), 0);
    }

    private static void promise10RulesInPlans() {
        Kerfhall knotty = millWithThinLog("sr");
        for (int slice = 0; slice < 6; slice++) {
            knotty.addKnot(0, slice, 7, 7, 2);
        }
        Check.due("4 knots are of grade 1", knotty.plan(0), 240);
        knotty.setRule(0, 0, 4, false, false);
        Check.due("4 knots are of grade 0 by the rule", knotty.plan(0), 480);
        knotty.setRule(0, 0, 3, false, false);
        knotty.setRule(1, 10, 3, false, true);
        Check.due("4 knots are of grade 2 by the rules", knotty.plan(0), 216);
        Kerfhall rotten = millWithThinLog("sr");
        for (int slice = 0; slice < 6; slice++) {
            rotten.addRot(0, slice, 1);
        }
        rotten.setPrice(3, 2, 0);
        Check.due("rot is of grade 2, as is some wane", rotten.plan(0), 120);
        rotten.setRule(1, 10, 6, true, true);
        Check.due("rot is of grade 1 by the rule", rotten.plan(0), 240);
        rotten.setRule(1, 10, 6, false, true);
        rotten.setRule(2, 30, 20, false, true);
        Check.due("rot is refused by the rules", rotten.plan(0), 0);
        Check.due("what is worth nothing is not cut", rotten.planned(0), 0);
        Kerfhall waney = millWithThinLog("s");
        waney.setRule(0, 20, 2, false, false);
        // 12 of 72 cells are wane in 3 columns of 4 rows, and 12 of 60 in 2 columns of 5 rows.
        Check.due("wane of a fifth at most", waney.plan(0), 864);
        waney.setRule(0, 16, 2, false, false);
        Check.due("wane of 16 percent at most, so 3 rows", waney.plan(0), 648);
        waney.setRule(0, 11, 2, false, false);
        Check.due("wane of 11 percent at most", waney.plan(0), 480);
    }

    private static void promise10StainInPlans() {
        Kerfhall mill = millWithThinLog("s");
        mill.setWeather(true, false);
        mill.tick(10);
        Check.due("10 warm ticks do not stain", mill.plan(0), 480);
        mill.tick(1);
        Check.due("11 warm ticks stain", mill.plan(0), 240);
        mill.setRule(0, 0, 2, false, true);
        Check.due("stain is allowed", mill.plan(0), 480);
        mill.setRule(0, 0, 2, false, false);
        mill.setRule(1, 10, 6, false, false);
        Check.due("stain is of grade 2", mill.plan(0), 216);
    }

    private static void promise11SetPrice() {
        Kerfhall mill = millWithThinLog("s");
        int[][] first = {{10, 5, 2}, {12, 6, 3}};
        for (int thickness = 2; thickness <= 3; thickness++) {
            for (int grade = 0; grade < 3; grade++) {
                Check.due("first price", mill.setPrice(thickness, grade, 99), first[thickness - 2][grade]);
                Check.due("price then", mill.setPrice(thickness, grade, first[thickness - 2][grade]), 99);
            }
        }
        mill.setPrice(2, 0, 11);
        Check.due("worth by the price", mill.plan(0), 528);
        mill.setPrice(3, 2, 99);
        Check.due("worth by the price of 3", planOf(mill, 0), "7128 | 7 3 6 4 0 6");
        Check.refused("thickness 1", ARGUMENT, () -> mill.setPrice(1, 0, 0));
        Check.refused("thickness 4", ARGUMENT, () -> mill.setPrice(4, 0, 0));
        Check.refused("grade 3", ARGUMENT, () -> mill.setPrice(2, 3, 0));
        Check.refused("grade -1", ARGUMENT, () -> mill.setPrice(2, -1, 0));
        Check.refused("price -1", ARGUMENT, () -> mill.setPrice(2, 0, -1));
        Check.refused("price 100", ARGUMENT, () -> mill.setPrice(2, 0, 100));
        Check.due("nothing changed", mill.setPrice(2, 0, 0), 11);
    }

    private static void promise12Plan() {
        Check.due("the least log", planOf(millWithThinLog("s"), 0), "480 | 7 2 6 4 0 6");
        Check.due("two boards", millWithLog(8, "s").plan(0), 2208);
        Kerfhall mill = millWithThinLog("");
        Check.refused("not scanned", UNSUPPORTED, () -> mill.plan(0));
        mill.scan(0, 'r');
        mill.scan(0, 'm');
        Check.refused("not scanned by 's' or 'l'", UNSUPPORTED, () -> mill.plan(0));
        Check.refused("log 1", INDEX, () -> mill.plan(1));
        Check.refused("log -1", INDEX, () -> mill.plan(-1));
        mill.scan(0, 'l');
        Check.due("scanned by 'l' alone", mill.plan(0), 480);
        mill.saw(0);
        Check.refused("sawn", UNSUPPORTED, () -> mill.plan(0));
    }

    private static void promise12BySight() {
        Kerfhall swept = millWithThinLog("s");
        for (int slice = 0; slice < 6; slice++) {
            swept.setSweep(0, slice, -2, 2);
        }
        Check.due("sweep is not seen", planOf(swept, 0), "480 | 7 2 6 4 0 6");
        swept.scan(0, 'l');
        Check.due("sweep is seen", planOf(swept, 0), "480 | 5 2 8 4 0 6");
        Kerfhall metal = millWithThinLog("s");
        metal.addMetal(0, 3, 8, 8);
        Check.due("metal is not seen", planOf(metal, 0), "480 | 7 2 6 4 0 6");
        metal.scan(0, 'm');
        Check.due("metal is seen", planOf(metal, 0), "240 | 7 2 6 4 0 3");
        metal.addMetal(0, 0, 7, 7);
        metal.addMetal(0, 1, 7, 7);
        Check.due("metal behind the scan is seen", planOf(metal, 0), "160 | 7 2 6 4 4 2");
    }

    private static void promise12Ties() {
        Kerfhall mill = millWithThinLog("s");
        mill.setPrice(2, 0, 0);
        // The columns 6 to 8 and 7 to 9 are worth the same: none from the column 6 on goes first.
        Check.due("first of the cuttings", planOf(mill, 0), "216 | 7 3 6 4 0 6");
        Kerfhall split = millWithThinLog("sm");
        split.addMetal(0, 2, 8, 8);
        split.addMetal(0, 3, 8, 8);
        Check.due("lowest first slice", planOf(split, 0), "160 | 7 2 6 4 0 2");
        split.addRot(0, 0, 1);
        split.scan(0, 'r');
        Check.due("a later slice", planOf(split, 0), "160 | 7 2 6 4 4 2");
        // Two columns of 3 rows and 6 slices are worth what 9 rows and 2 slices are: the lowest row goes first.
        Kerfhall rows = millWithLog(16, "sm");
        for (int slice = 0; slice < 6; slice++) {
            for (int x = 0; x < 16; x++) {
                rows.addMetal(0, slice, x, 7);
                rows.addMetal(0, slice, x, 8);
            }
        }
        rows.setPrice(3, 0, 0);
        rows.setPrice(3, 1, 0);
        rows.setPrice(3, 2, 0);
        Check.due("lowest row of the middle board", rows.plannedAt(0, 2, 'y'), 0);
        Check.due("width of the middle board", rows.plannedAt(0, 2, 'w'), 7);
        Kerfhall thicker = millWithThinLog("s");
        thicker.setPrice(2, 0, 9);
        thicker.setPrice(3, 2, 6);
        Check.due("2 columns and 3 are worth the same", planOf(thicker, 0), "432 | 7 2 6 4 0 6");
    }

    /** Widths and lengths that are worth the same, in a log that has metal all around a place. */
    private static void promise12LeastWidth() {
        Kerfhall mill = millWithLog(16, "srm");
        mill.setRule(0, 0, 0, false, false);
        mill.setRule(1, 0, 256, false, true);
        for (int slice = 0; slice < 6; slice++) {
            for (int x = 0; x < 16; x++) {
                for (int y = 0; y < 16; y++) {
                    if (x != 7 && x != 8 || y < 5 || y > 10) {
                        mill.addMetal(0, slice, x, y);
                    }
                }
            }
            // Rows 5 to 7 are without knots: 3 rows at the price 10 are worth what 6 rows are at 5.
            mill.addKnot(0, slice, 7, 8, 2);
            mill.addKnot(0, slice, 7, 9, 2);
        }
        Check.due("least width", planOf(mill, 0), "360 | 7 2 5 3 0 6");
        for (int slice = 0; slice < 3; slice++) {
            mill.addKnot(0, slice, 7, 5, 3);
        }
        // 6 rows of 6 slices at 5, worth 360, stand against 3 rows of the slices 3 to 5 at 10, worth 180.
        Check.due("knots in some slices", planOf(mill, 0), "360 | 7 2 5 6 0 6");
    }

    /** Only the given part of a log of the diameter 16 is without metal. */
    private static Kerfhall millWithMetalBut(int fromX, int toX, int fromY, int toY, int fromSlice, int toSlice) {
        Kerfhall mill = millWithLog(16, "sm");
        for (int slice = 0; slice < 6; slice++) {
            for (int x = 0; x < 16; x++) {
                for (int y = 0; y < 16; y++) {
                    boolean isIn = x >= fromX && x <= toX && y >= fromY && y <= toY && slice >= fromSlice
                            && slice <= toSlice;
                    if (!isIn) {
                        mill.addMetal(0, slice, x, y);
                    }
                }
            }
        }
        return mill;
    }

    private static void promise12EdgesOfTheLog() {
        Check.due("the last rows", planOf(millWithMetalBut(7, 8, 13, 15, 0, 5), 0), "360 | 7 2 13 3 0 6");
        Check.due("the first rows", planOf(millWithMetalBut(7, 8, 0, 2, 0, 5), 0), "360 | 7 2 0 3 0 6");
        Check.due("two rows", planOf(millWithMetalBut(7, 8, 0, 1, 0, 5), 0), "0");
        Check.due("the last slices", planOf(millWithMetalBut(7, 8, 4, 6, 4, 5), 0), "120 | 7 2 4 3 4 2");
        Check.due("one slice", planOf(millWithMetalBut(7, 8, 4, 6, 3, 3), 0), "0");
        Check.due("the last columns", planOf(millWithMetalBut(14, 15, 7, 9, 0, 5), 0), "360 | 14 2 7 3 0 6");
        Check.due("the first columns", planOf(millWithMetalBut(0, 2, 7, 9, 0, 5), 0), "648 | 0 3 7 3 0 6");
        Check.due("one column", planOf(millWithMetalBut(8, 8, 0, 15, 0, 5), 0), "0");
    }

    private static void promise13Planned() {
        Check.due("boards of the least log", millWithThinLog("s").planned(0), 1);
        Check.due("boards of a log", millWithLog(8, "s").planned(0), 2);
        Kerfhall mill = millWithThinLog("rm");
        Check.refused("not scanned by 's' or 'l'", UNSUPPORTED, () -> mill.planned(0));
        Check.refused("log 1", INDEX, () -> mill.planned(1));
        mill.scan(0, 's');
        mill.saw(0);
        Check.refused("sawn", UNSUPPORTED, () -> mill.planned(0));
    }

    private static void promise14PlannedAt() {
        Kerfhall mill = millWithLog(8, "s");
        Check.due("two boards", planOf(mill, 0), "2208 | 6 3 4 8 0 6 | 10 2 6 4 0 6");
        Check.refused("index 2", MISSING, () -> mill.plannedAt(0, 2, 'x'));
        Check.refused("index -1", MISSING, () -> mill.plannedAt(0, -1, 'x'));
        Check.refused("no such letter", ARGUMENT, () -> mill.plannedAt(0, 9, 'v'));
        Check.refused("no such log", INDEX, () -> mill.plannedAt(1, 9, 'v'));
        Kerfhall unseen = millWithLog(8, "rm");
        Check.refused("not scanned", UNSUPPORTED, () -> unseen.plannedAt(0, 9, 'x'));
        Check.refused("not scanned, and no such letter", ARGUMENT, () -> unseen.plannedAt(0, 9, 'X'));
        mill.saw(0);
        Check.refused("sawn", UNSUPPORTED, () -> mill.plannedAt(0, 0, 'x'));
    }

    /** A plan that was asked for does not outlive what it was made of. */
    private static void plansAreAsOfNow() {
        Kerfhall mill = millWithThinLog("srm");
        mill.addLog(8, 8, false);
        mill.scan(1, 's');
        Check.due("one log", mill.plan(0), 480);
        Check.due("the other log", mill.plan(1), 2208);
        Check.due("the first again", mill.plan(0), 480);
        mill.addRot(0, 0, 1);
        Check.due("with rot", planOf(mill, 0), "400 | 7 2 6 4 1 5");
        mill.addKnot(0, 1, 7, 6, 4);
        Check.due("with a knot", planOf(mill, 0), "320 | 7 2 6 4 2 4");
        mill.addMetal(0, 2, 7, 7);
        Check.due("with metal", planOf(mill, 0), "240 | 7 2 6 4 3 3");
        mill.scan(0, 'l');
        Check.due("no sweep yet", planOf(mill, 0), "240 | 7 2 6 4 3 3");
        mill.setSweep(0, 5, 2, 2);
        Check.due("with sweep", planOf(mill, 0), "160 | 7 2 6 4 3 2");
    }

    /** The grade, by the first rules, of a board that is all wood and has some knots, unseen, in each slice. */
    private static int gradeByKnots(int knots) {
        Kerfhall mill = millWithLog(16, "s");
        int board = 1;
        int thickness = mill.plannedAt(0, board, 't');
        for (int knot = 0; knot < knots; knot++) {
            int x = mill.plannedAt(0, board, 'x') + knot % thickness;
            int y = mill.plannedAt(0, board, 'y') + knot / thickness;
            for (int slice = 0; slice < 6; slice++) {
                mill.addKnot(0, slice, x, y, 1);
            }
        }
        mill.saw(0);
        Check.due("wane", mill.inBoard(board, 'n'), 0);
        Check.due("knots", mill.inBoard(board, 'k'), knots);
        return mill.gradeOf(board);
    }

    private static void promise10FirstRules() {
        int[] knots = {0, 2, 3, 6, 7, 20, 21, 24};
        int[] grades = {0, 0, 1, 1, 2, 2, 3, 3};
        for (int index = 0; index < knots.length; index++) {
            Check.due("grade of " + knots[index] + " knots", gradeByKnots(knots[index]), grades[index]);
        }
    }

    private static void promise12OneCellOfRot() {
        Kerfhall mill = millWithThinLog("sr");
        mill.setSweep(0, 0, 2, 0);
        mill.addRot(0, 0, 1);
        mill.setSweep(0, 0, 2, 2);
        // The rot of the slice 0 is now in the columns 9 and 10, the rows 9 and 10: the board of 3 columns has one cell.
        mill.setPrice(2, 0, 0);
        Check.due("one cell of rot, and wane", mill.plan(0), 216);
        mill.setRule(2, 30, 20, false, true);
        Check.due("one cell of rot, not allowed", planOf(mill, 0), "216 | 6 3 6 4 0 6");
    }

    public static void main(String[] args) {
        promise10SetRule();
        promise10RulesInPlans();
        promise10StainInPlans();
        promise10FirstRules();
        promise11SetPrice();
        promise12Plan();
        promise12BySight();
        promise12Ties();
        promise12LeastWidth();
        promise12OneCellOfRot();
        promise12EdgesOfTheLog();
        promise13Planned();
        promise14PlannedAt();
        plansAreAsOfNow();
        Check.end("PlanTest");
    }
}
