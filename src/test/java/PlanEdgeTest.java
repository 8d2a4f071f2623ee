/** The boundary cases that the document's words on boards, grades and planning name, a test for each sentence. */
public final class PlanEdgeTest {
    private PlanEdgeTest() {
    }

    private static void due(String what, Kerfhall mill, String want) {
        Check.due(what, Mills.planOf(mill, 0), want);
    }

    /** "Columns from x on, 2 or 3 of them, its thickness." */
    private static void thickness() {
        due("one column", Mills.ofPart(7, 7, 5, 10, 0, 5), "0");
        due("two columns", Mills.ofPart(7, 8, 5, 10, 0, 5), "720 | 7 2 5 6 0 6");
        due("three columns", Mills.ofPart(7, 9, 5, 10, 0, 5), "1296 | 7 3 5 6 0 6");
        due("four columns", Mills.ofPart(6, 9, 5, 10, 0, 5), "1296 | 7 3 5 6 0 6");
    }

    /** "Rows from y on, its width, at least 3." */
    private static void width() {
        due("two rows", Mills.ofPart(7, 8, 7, 8, 0, 5), "0");
        due("three rows", Mills.ofPart(7, 8, 7, 9, 0, 5), "360 | 7 2 7 3 0 6");
        due("the first three rows", Mills.ofPart(7, 8, 0, 2, 0, 5), "360 | 7 2 0 3 0 6");
        due("the last three rows", Mills.ofPart(7, 8, 13, 15, 0, 5), "360 | 7 2 13 3 0 6");
        due("the first two rows", Mills.ofPart(7, 8, 0, 1, 0, 5), "0");
        due("the last two rows", Mills.ofPart(7, 8, 14, 15, 0, 5), "0");
        due("all rows", Mills.ofPart(7, 8, 0, 15, 0, 5), "1920 | 7 2 0 16 0 6");
    }

    /** "Slices from s on, its length, at least 2." */
    private static void length() {
        due("one slice", Mills.ofPart(7, 8, 5, 10, 2, 2), "0");
        due("the first slice", Mills.ofPart(7, 8, 5, 10, 0, 0), "0");
        due("the last slice", Mills.ofPart(7, 8, 5, 10, 5, 5), "0");
        due("two slices", Mills.ofPart(7, 8, 5, 10, 2, 3), "240 | 7 2 5 6 2 2");
        due("the first two slices", Mills.ofPart(7, 8, 5, 10, 0, 1), "240 | 7 2 5 6 0 2");
        due("the last two slices", Mills.ofPart(7, 8, 5, 10, 4, 5), "240 | 7 2 5 6 4 2");
    }

    /** Boards at the first and the last column, which has no column to be lost behind it. */
    private static void firstAndLastColumns() {
        due("the first two columns", Mills.ofPart(0, 1, 5, 10, 0, 5), "720 | 0 2 5 6 0 6");
        due("the first three columns", Mills.ofPart(0, 2, 5, 10, 0, 5), "1296 | 0 3 5 6 0 6");
        due("the last two columns", Mills.ofPart(14, 15, 5, 10, 0, 5), "720 | 14 2 5 6 0 6");
        due("the last three columns", Mills.ofPart(13, 15, 5, 10, 0, 5), "1296 | 13 3 5 6 0 6");
        due("the first column", Mills.ofPart(0, 0, 5, 10, 0, 5), "0");
        due("the last column", Mills.ofPart(15, 15, 5, 10, 0, 5), "0");
    }

    /** "As the column x + 2 is lost to the saw", "and that from x + 4 on". */
    private static void lostColumns() {
        Kerfhall four = Mills.ofPart(6, 9, 5, 10, 0, 5);
        Mills.setPrices(four, 10, 0);
        due("four columns have one board of 2", four, "720 | 8 2 5 6 0 6");
        Kerfhall five = Mills.ofPart(6, 10, 5, 10, 0, 5);
        Mills.setPrices(five, 10, 0);
        due("five columns have two", five, "1440 | 6 2 5 6 0 6 | 9 2 5 6 0 6");
        Kerfhall six = Mills.ofPart(5, 10, 5, 10, 0, 5);
        Mills.setPrices(six, 0, 10);
        due("six columns have one board of 3", six, "1080 | 8 3 5 6 0 6");
        Kerfhall seven = Mills.ofPart(5, 11, 5, 10, 0, 5);
        Mills.setPrices(seven, 0, 10);
        due("seven columns have two", seven, "2160 | 5 3 5 6 0 6 | 9 3 5 6 0 6");
        Kerfhall last = Mills.ofPart(11, 15, 5, 10, 0, 5);
        Mills.setPrices(last, 10, 0);
        due("the last five columns", last, "1440 | 11 2 5 6 0 6 | 14 2 5 6 0 6");
    }

    /** "Of several the first of these three": none goes ahead of 2 columns and of 3, and 2 go ahead of 3. */
    private static void firstOfTheCuttings() {
        Kerfhall two = Mills.ofPart(6, 8, 5, 10, 0, 5);
        Mills.setPrices(two, 10, 0);
        due("none goes ahead of 2", two, "720 | 7 2 5 6 0 6");
        Kerfhall three = Mills.ofPart(6, 9, 5, 10, 0, 5);
        Mills.setPrices(three, 0, 10);
        due("none goes ahead of 3", three, "1080 | 7 3 5 6 0 6");
        // 2 columns at 15 are worth what 3 are at 10; but no such board begins at the column 7, which has knots.
        Kerfhall either = Mills.ofPart(5, 7, 5, 10, 0, 5);
        Mills.setPrices(either, 15, 10);
        for (int slice = 0; slice < 6; slice++) {
            either.addMetal(0, slice, 7, 5);
        }
        either.setPrice(3, 0, 12);
        // Metal leaves 5 rows to boards with the column 7: 3 columns of 5 rows at 12 are worth what 2 of 6 are at 15.
        due("2 go ahead of 3", either, "1080 | 5 2 5 6 0 6");
        either.setPrice(3, 0, 13);
        due("3 that are worth more", either, "1170 | 5 3 6 5 0 6");
    }

    /** "Of several the one with the lowest y", ahead of the least width: 6 rows at 5 are worth what 3 are at 10. */
    private static void lowestRow() {
        Kerfhall mill = Mills.ofPart(7, 8, 5, 14, 0, 5);
        for (int slice = 0; slice < 6; slice++) {
            mill.addRot(0, slice, 1);
            mill.addMetal(0, slice, 7, 11);
        }
        due("lowest y", mill, "360 | 7 2 5 6 0 6");
        mill.setPrice(2, 1, 4);
        due("the higher one, if it is worth more", mill, "360 | 7 2 12 3 0 6");
    }

    /** "Then the least width." The rot is in the rows 8 and 9. */
    private static void leastWidth() {
        Kerfhall mill = Mills.ofPart(7, 8, 5, 10, 0, 5);
        for (int slice = 0; slice < 6; slice++) {
            mill.setSweep(0, slice, 0, 1);
            mill.addRot(0, slice, 1);
        }
        due("least width", mill, "360 | 7 2 5 3 0 6");
        mill.setPrice(2, 1, 6);
        due("the wider one, if it is worth more", mill, "432 | 7 2 5 6 0 6");
    }

    /** "Then the least width, then the lowest s": 3 rows of the last slices go ahead of 6 rows of the first ones. */
    private static void leastWidthAheadOfLowestSlice() {
        Kerfhall mill = Mills.ofPart(7, 8, 5, 10, 0, 5);
        for (int slice = 0; slice < 6; slice++) {
            if (slice < 2) {
                mill.setSweep(0, slice, 0, -1);
                mill.addRot(0, slice, 1);
            } else {
                Mills.spoil(mill, 0, slice, 7, 8, slice < 4 ? 5 : 8, 10);
            }
        }
        due("least width", mill, "120 | 7 2 5 3 4 2");
        mill.setPrice(2, 1, 6);
        due("the lower slices, if they are worth more", mill, "144 | 7 2 5 6 0 2");
    }

    /** "Then the lowest s", of the same length. */
    private static void lowestSlice() {
        Kerfhall mill = Mills.ofPart(7, 8, 7, 9, 0, 5);
        mill.addMetal(0, 2, 8, 9);
        mill.addMetal(0, 3, 7, 7);
        due("lowest s", mill, "120 | 7 2 7 3 0 2");
        mill.addMetal(0, 1, 7, 7);
        due("the later one, if there is no other", mill, "120 | 7 2 7 3 4 2");
    }

    /** "Then the lowest s, then the least length": 3 slices at 6 are worth what 2 are at 9. */
    private static void lowestSliceAheadOfLeastLength() {
        Kerfhall mill = Mills.ofPart(7, 8, 7, 9, 0, 5);
        Mills.setPrices(mill, 9, 0);
        mill.setPrice(2, 1, 6);
        mill.addRot(0, 1, 1);
        mill.addMetal(0, 3, 7, 7);
        due("lowest s", mill, "108 | 7 2 7 3 0 3");
        mill.setPrice(2, 1, 5);
        due("the later one, if it is worth more", mill, "108 | 7 2 7 3 4 2");
    }

    /** "Then the least length": 4 slices at 5 are worth what 2 are at 10. */
    private static void leastLength() {
        Kerfhall mill = Mills.ofPart(7, 8, 7, 9, 0, 3);
        mill.addRot(0, 2, 1);
        due("least length", mill, "120 | 7 2 7 3 0 2");
        mill.setPrice(2, 1, 6);
        due("the longer one, if it is worth more", mill, "144 | 7 2 7 3 0 4");
    }

    /** "A board that is worth nothing is never cut", "nothing with metal or of the grade 3". */
    private static void worthNothing() {
        Kerfhall mill = Mills.ofPart(7, 8, 7, 9, 0, 5);
        mill.setPrice(2, 0, 0);
        due("a price of 0", mill, "0");
        mill.setPrice(2, 0, 1);
        due("a price of 1", mill, "36 | 7 2 7 3 0 6");
        mill.setPrice(2, 0, 99);
        due("a price of 99", mill, "3564 | 7 2 7 3 0 6");
        for (int slice = 1; slice < 6; slice += 2) {
            mill.addMetal(0, slice, 7, 7);
        }
        due("metal in each second slice", mill, "0");
        Kerfhall refused = Mills.ofPart(7, 8, 7, 9, 0, 5);
        Mills.setPrices(refused, 99, 99);
        refused.addRot(0, 2, 1);
        refused.setRule(1, 0, 0, false, true);
        due("rot in a slice that no rule allows", refused, "1782 | 7 2 7 3 3 3");
        for (int slice = 0; slice < 6; slice++) {
            refused.addRot(0, slice, 1);
        }
        due("rot in all slices that no rule allows", refused, "0");
    }

    /** Prices need not fall with the grade: rot is in the two last of seven rows, by the grade 1, or 2, at 99. */
    private static void worseGradesThatAreWorthMore() {
        for (int grade = 1; grade <= 2; grade++) {
            for (int thickness = 2; thickness <= 3; thickness++) {
                Kerfhall mill = Mills.ofPart(7, 6 + thickness, 4, 10, 0, 5);
                mill.setRule(1, 0, 0, grade == 1, true);
                mill.setRule(2, 0, 0, grade == 2, true);
                for (int slice = 0; slice < 6; slice++) {
                    mill.setSweep(0, slice, 0, 2);
                    mill.addRot(0, slice, 1);
                }
                Mills.setPrices(mill, thickness == 2 ? 1 : 0, thickness == 3 ? 1 : 0);
                mill.setPrice(thickness, grade, 99);
                due("the rot is worth more", mill, thickness * 7 * 6 * 99 + " | 7 " + thickness + " 4 7 0 6");
                mill.setPrice(thickness, 0, 98);
                mill.setPrice(thickness, grade, 69);
                due("the rest is worth more", mill, thickness * 5 * 6 * 98 + " | 7 " + thickness + " 4 5 0 6");
            }
        }
    }

    /** "By what is seen": metal at its true place "also where no wood is seen", wane by what is seen of the sweep. */
    private static void bySight() {
        Kerfhall mill = Mills.ofLogs(1, 4, "srm");
        Mills.setPrices(mill, 10, 0);
        mill.setRule(0, 20, 2, false, false);
        for (int slice = 0; slice < 6; slice++) {
            mill.setSweep(0, slice, 0, -1);
        }
        due("a row of wane below", mill, "600 | 7 2 5 5 0 6");
        mill.addMetal(0, 3, 7, 5);
        due("metal where no wood is seen", mill, "600 | 7 2 6 5 0 6");
        mill.addMetal(0, 3, 7, 10);
        due("metal where no wood is", mill, "600 | 7 2 6 5 0 6");
        mill.setRule(0, 0, 2, false, false);
        mill.setRule(1, 0, 2, false, false);
        mill.setRule(2, 0, 2, false, false);
        due("no wane", mill, "480 | 7 2 6 4 0 6");
        mill.scan(0, 'l');
        due("no wane with the sweep", mill, "360 | 7 2 6 3 0 6");
    }

    /** "By stain as it is now": "if it lay for more than 10 ticks that were warm and without sprinkling". */
    private static void stainAsItIsNow() {
        Kerfhall mill = Mills.ofLogs(1, 4, "s");
        mill.setWeather(true, false);
        mill.tick(10);
        due("10 ticks", mill, "480 | 7 2 6 4 0 6");
        mill.setWeather(true, true);
        mill.tick(50);
        mill.setWeather(false, false);
        mill.tick(50);
        mill.setWeather(false, true);
        mill.tick(50);
        due("no more of these", mill, "480 | 7 2 6 4 0 6");
        mill.setWeather(true, false);
        mill.tick(1);
        due("11 ticks", mill, "240 | 7 2 6 4 0 6");
    }

    /** "100 times its wane is at most the wane of the rule times its volume": 12 cells of 60 are 20 percent. */
    private static void waneInPlans() {
        Kerfhall mill = Mills.ofLogs(1, 4, "s");
        Mills.setPrices(mill, 10, 0);
        mill.setPrice(2, 1, 0);
        mill.setPrice(2, 2, 0);
        mill.setRule(0, 20, 2, false, false);
        due("20 percent are allowed", mill, "600 | 7 2 5 5 0 6");
        mill.setRule(0, 19, 2, false, false);
        due("19 percent are allowed", mill, "480 | 7 2 6 4 0 6");
        mill.setRule(0, 100, 2, false, false);
        mill.setPrice(2, 0, 1);
        Check.due("5 boards of all rows and slices", mill.plan(0), 5 * 2 * 16 * 6);
        mill.setRule(0, 99, 2, false, false);
        Check.due("wood is in the columns 6 to 9 alone", mill.planned(0) < 5, true);
    }

    /** "Its knots are at most those of the rule", "the greatest number of cells of knots in one of its slices". */
    private static void knotsInPlans() {
        Kerfhall mill = Mills.ofLogs(1, 4, "sr");
        for (int slice = 0; slice < 6; slice++) {
            mill.addKnot(0, slice, 7, 7, 2);
        }
        mill.setRule(0, 0, 4, false, false);
        due("4 knots of 4", mill, "480 | 7 2 6 4 0 6");
        mill.setRule(0, 0, 3, false, false);
        due("4 knots of 3", mill, "240 | 7 2 6 4 0 6");
        mill.setRule(1, 0, 3, false, false);
        mill.setRule(2, 0, 3, false, false);
        due("4 knots of 3 in all rules, none in 3 rows either", mill, "0");
        mill.setRule(2, 0, 4, false, false);
        due("but by the last rule", mill, "96 | 7 2 6 4 0 6");
    }

    /**
     * A board of 2 columns, 3 rows and 5 slices, 30 cells, with so many cells of wane. The saw sees no sweep; in the
     * rows 7 to 9 of the columns 7 and 8, a sweep by 1 in x takes one cell of a slice, one by 2 in y takes two, and
     * one by 2 in x takes four.
     */
    private static Kerfhall ofWane(int wane) {
        Kerfhall mill = Mills.ofLogs(1, 4, "s");
        int left = wane;
        for (int slice = 0; slice < 5; slice++) {
            int taken = left >= 4 ? 4 : left >= 2 ? 2 : left;
            mill.setSweep(0, slice, taken == 4 ? 2 : taken == 1 ? 1 : 0, taken == 2 ? 2 : 0);
            left -= taken;
        }
        mill.saw(0);
        mill.trim(0, 0, 5);
        mill.rip(0, 7, 3);
        Check.due("wane", mill.inBoard(0, 'n'), wane);
        Check.due("wood", mill.inBoard(0, 'v'), 30 - wane);
        return mill;
    }

    /** "Wane 0", "wane 10", "wane 30": 0, 3 and 9 cells of 30. */
    private static void firstRulesOfWane() {
        int[] wanes = {0, 1, 2, 3, 4, 8, 9, 10, 20};
        int[] grades = {0, 1, 1, 1, 2, 2, 2, 3, 3};
        for (int index = 0; index < wanes.length; index++) {
            Check.due("grade of " + wanes[index] + " of 30", ofWane(wanes[index]).gradeOf(0), grades[index]);
        }
    }

    /** "At most the wane of the rule times its volume", for a rule of any wane. */
    private static void rulesOfWane() {
        for (int wane = 3; wane <= 18; wane += 3) {
            Kerfhall mill = ofWane(wane);
            mill.setRule(0, wane * 100 / 30, 2, false, false);
            Check.due("just enough for " + wane, mill.gradeOf(0), 0);
            mill.setRule(0, wane * 100 / 30 - 1, 2, false, false);
            Check.due("not enough for " + wane, mill.gradeOf(0) > 0, true);
        }
        Kerfhall bare = Mills.ofLogs(1, 4, "s");
        for (int slice = 0; slice < 6; slice++) {
            bare.setSweep(0, slice, 2, 2);
        }
        bare.saw(0);
        bare.rip(0, 6, 3);
        Check.due("no wood", bare.inBoard(0, 'v'), 0);
        bare.setRule(2, 100, 0, false, false);
        Check.due("a wane of 100", bare.gradeOf(0), 2);
        bare.setRule(2, 99, 0, false, false);
        Check.due("a wane of 99", bare.gradeOf(0), 3);
    }

    /** "Knots 2", "knots 6", "knots 20": boards with 0 to 24 cells of knots in two of their slices. */
    private static void rulesOfKnots() {
        int[] due = {0, 0, 0, 1, 1, 1, 1, 2, 2, 2, 2, 2, 2, 2, 2, 2, 2, 2, 2, 2, 2, 3, 3, 3, 3};
        for (int knots = 0; knots <= 24; knots++) {
            Kerfhall mill = Mills.ofLogs(1, 8, "s");
            for (int knot = 0; knot < knots; knot++) {
                mill.addKnot(0, 0, 6 + knot % 3, 4 + knot / 3, 1);
                mill.addKnot(0, 4, 8 - knot % 3, 4 + knot / 3, 1);
            }
            mill.saw(0);
            Check.due("its board", Mills.partsOf(mill, 0), "6 3 4 8 0 6");
            Check.due("knots", mill.inBoard(0, 'k'), knots);
            Check.due("grade of " + knots + " knots", mill.gradeOf(0), due[knots]);
            mill.setRule(0, 0, knots, false, false);
            Check.due("grade of as many as allowed", mill.gradeOf(0), 0);
            mill.setRule(0, 0, Math.max(0, knots - 1), false, false);
            Check.due("grade of one more", mill.gradeOf(0) > 0, knots > 0);
        }
    }

    /** "Rot and stain are allowed, or it has none": each rule of the four, for each board of the four. */
    private static void rulesOfRotAndStain() {
        for (int kind = 0; kind < 4; kind++) {
            boolean isRotten = kind % 2 == 1;
            boolean isStained = kind >= 2;
            Kerfhall mill = Mills.ofLogs(1, 4, "s");
            if (isRotten) {
                mill.addRot(0, 5, 1);
            }
            mill.setWeather(isStained, false);
            mill.tick(11);
            mill.saw(0);
            Check.due("grade by the first rules", mill.gradeOf(0), isRotten ? 2 : isStained ? 1 : 0);
            for (int rule = 0; rule < 4; rule++) {
                boolean isRot = rule % 2 == 1;
                boolean isStain = rule >= 2;
                boolean isMet = (isRot || !isRotten) && (isStain || !isStained);
                for (int grade = 0; grade < 3; grade++) {
                    mill.setRule(grade, 0, 0, isRot, isStain);
                }
                Check.due("by the rule " + rule + " for the board " + kind, mill.gradeOf(0), isMet ? 0 : 3);
            }
        }
    }

    /** "A board is of the lowest grade whose rule it meets", whatever the others are. */
    private static void lowestGrade() {
        for (int met = 0; met < 8; met++) {
            Kerfhall mill = Mills.ofRottenBoards(1);
            for (int grade = 0; grade < 3; grade++) {
                mill.setRule(grade, 0, 0, (met >> grade & 1) == 1, false);
            }
            int due = met % 2 == 1 ? 0 : met % 4 == 2 ? 1 : met == 4 ? 2 : 3;
            Check.due("grade by the rules " + met, mill.gradeOf(0), due);
        }
    }

    /** "A board with checks is of the next worse grade, at most 3." */
    private static void gradesWithChecks() {
        for (int grade = 0; grade <= 3; grade++) {
            Kerfhall mill = Mills.ofRottenBoards(1);
            mill.tick(1);
            mill.charge(0);
            mill.setStep(0, 9);
            mill.tick(2);
            Check.due("checks", mill.hasChecks(0), true);
            Mills.gradeRot(mill, grade);
            Check.due("grade with checks", mill.gradeOf(0), Math.min(3, grade + 1));
        }
    }

    public static void main(String[] args) {
        thickness();
        width();
        length();
        firstAndLastColumns();
        lostColumns();
        firstOfTheCuttings();
        lowestRow();
        leastWidth();
        leastWidthAheadOfLowestSlice();
        lowestSlice();
        lowestSliceAheadOfLeastLength();
        leastLength();
        worthNothing();
        worseGradesThatAreWorthMore();
        bySight();
        stainAsItIsNow();
        waneInPlans();
        knotsInPlans();
        firstRulesOfWane();
        rulesOfWane();
        rulesOfKnots();
        rulesOfRotAndStain();
        lowestGrade();
        gradesWithChecks();
        Check.end("PlanEdgeTest");
    }
}
