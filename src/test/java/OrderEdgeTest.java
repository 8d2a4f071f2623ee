import java.util.List;

/** The boundary cases that the document's words on orders and on what is counted name, a test for each sentence. */
public final class OrderEdgeTest {
    private static final Class<UnsupportedOperationException> UNSUPPORTED = UnsupportedOperationException.class;

    private OrderEdgeTest() {
    }

    /** A board with rot, dried to a moisture of 18 without stress, in the yard. */
    private static Kerfhall dried(int ticks) {
        Kerfhall mill = Mills.ofRottenBoards(1);
        Mills.feedKiln(mill, 1);
        mill.tick(1);
        mill.charge(0);
        mill.tick(ticks);
        mill.empty();
        return mill;
    }

    /** Boards of these lengths in the yard, in this order, six at most. */
    private static Kerfhall ofLengths(int... lengths) {
        Kerfhall mill = Mills.ofYard(lengths.length);
        for (int board = 0; board < lengths.length; board++) {
            mill.trim(board, 0, lengths[board]);
        }
        return mill;
    }

    /** "At most 8 orders are numbered from 0." */
    private static void ordersAreNumbered() {
        Kerfhall mill = new Kerfhall();
        for (int order = 0; order < 8; order++) {
            int next = order;
            Check.refused(mill, "not there yet", IndexOutOfBoundsException.class, () -> mill.deliver(next));
            Check.due("number", mill.addOrder(2, 0, 1, order % 2, 0, false), order);
        }
        Check.refused(mill, "a ninth", IllegalStateException.class, () -> mill.addOrder(2, 0, 1, 0, 0, false));
        Check.refused(mill, "order 8", IndexOutOfBoundsException.class, () -> mill.deliver(8));
        Check.due("order 7", mill.deliver(7), 0);
        Check.refused(mill, "a delivered one counts", IllegalStateException.class,
                () -> mill.addOrder(2, 0, 1, 0, 0, false));
    }

    /** "Each board of the thickness." */
    private static void ofTheThickness() {
        for (int thickness = 2; thickness <= 3; thickness++) {
            Kerfhall mill = Mills.ofLogs(1, 8, "s");
            Mills.setPrices(mill, thickness == 2 ? 10 : 0, thickness == 3 ? 10 : 0);
            mill.saw(0);
            Mills.feedKiln(mill, 1);
            mill.tick(1);
            mill.charge(0);
            mill.tick(21);
            mill.empty();
            Check.due("thickness", mill.partOf(0, 't'), thickness);
            int other = 5 - thickness;
            mill.addOrder(other, 3, 6, 0, 1, false);
            mill.addOrder(thickness, 3, 6, 0, 1, false);
            Check.refused(mill, "the other thickness", UNSUPPORTED, () -> mill.deliver(0));
            Check.due("the thickness", mill.deliver(1), 6);
        }
    }

    /** "Of a grade that is at most the worst one", each of each. */
    private static void ofTheWorstGrade() {
        for (int grade = 0; grade <= 3; grade++) {
            for (int worst = 0; worst <= 3; worst++) {
                Kerfhall mill = dried(21);
                mill.addOrder(2, worst, 6, 0, 1, false);
                Mills.gradeRot(mill, grade);
                if (grade <= worst) {
                    Check.due("grade " + grade + " for " + worst, mill.deliver(0), 6);
                    Mills.gradeRot(mill, 3 - grade);
                    Check.due("sold as", mill.soldAs(0), grade);
                } else {
                    Check.refused(mill, "grade " + grade + " for " + worst, UNSUPPORTED, () -> mill.deliver(0));
                }
            }
        }
    }

    /** The grade is the one with checks. */
    private static void ofTheWorstGradeWithChecks() {
        Kerfhall mill = Mills.ofYard(1);
        mill.addOrder(2, 0, 6, 0, 1, false);
        mill.addOrder(2, 1, 6, 0, 1, false);
        Check.refused(mill, "checks are worse", UNSUPPORTED, () -> mill.deliver(0));
        Check.due("a worse grade is enough", mill.deliver(1), 6);
        Check.due("sold as", mill.soldAs(0), 1);
    }

    /** "And a moisture of at most 18." */
    private static void ofTheMoisture() {
        int[] moistures = {17, 18, 19, 20, 60};
        for (int moisture : moistures) {
            Kerfhall mill = Mills.ofBoards(1);
            Mills.feedKiln(mill, 1);
            mill.tick(1);
            mill.charge(0);
            mill.setStep(0, moisture % 2 == 0 ? 2 : 1);
            if (moisture < 60) {
                mill.tick(1);
                mill.setStep(0, 2);
                mill.tick((59 - moisture) / 2);
            }
            mill.empty();
            Check.due("moisture", mill.moisture(0), moisture);
            mill.addOrder(2, 3, 6, 0, 1, false);
            if (moisture <= 18) {
                Check.due("moisture " + moisture, mill.deliver(0), 6);
            } else {
                Check.refused(mill, "moisture " + moisture, UNSUPPORTED, () -> mill.deliver(0));
            }
        }
    }

    /** "The yard is gone through": boards in the queue, a bin and the kiln are not taken, however dry. */
    private static void ofTheYard() {
        Kerfhall mill = Mills.ofBoards(1);
        Mills.feedKiln(mill, 1);
        mill.addOrder(2, 3, 6, 0, 1, false);
        Check.refused(mill, "in the queue", UNSUPPORTED, () -> mill.deliver(0));
        mill.tick(1);
        Check.refused(mill, "in a bin", UNSUPPORTED, () -> mill.deliver(0));
        mill.charge(0);
        mill.tick(30);
        Check.due("dry", mill.moisture(0), 6);
        Check.refused(mill, "in the kiln", UNSUPPORTED, () -> mill.deliver(0));
        mill.empty();
        Check.due("in the yard", mill.deliver(0), 6);
        mill.addOrder(2, 3, 6, 0, 1, false);
        Check.refused(mill, "delivered", UNSUPPORTED, () -> mill.deliver(1));
    }

    /** Goes through the yard as the document has it: the length that is taken. */
    private static int lengthTaken(int[] lengths, int length, int tolerance) {
        int sum = 0;
        for (int each : lengths) {
            sum += sum + each <= length + tolerance ? each : 0;
        }
        return sum;
    }

    /**
     * "Taken if the length with it is at most that of the order plus the tolerance. If the length that is taken is at
     * least that of the order less the tolerance": each length and tolerance for some yards.
     */
    private static void lengthsWithTolerances() {
        int[][] yards = {{}, {6}, {2}, {6, 5}, {6, 3, 2}, {2, 6, 4, 3}};
        for (int[] yard : yards) {
            for (int length = 1; length <= 16; length++) {
                for (int tolerance = 0; tolerance <= 4; tolerance++) {
                    Kerfhall mill = yard.length == 0 ? new Kerfhall() : ofLengths(yard);
                    mill.addOrder(2, 3, length, tolerance, 3, false);
                    int due = lengthTaken(yard, length, tolerance);
                    String what = "length " + length + " and " + tolerance + " of " + yard.length;
                    if (due >= length - tolerance) {
                        Check.due(what, mill.deliver(0), due);
                        Check.due("money", mill.money(), 3L * due);
                    } else {
                        Check.refused(mill, what, UNSUPPORTED, () -> mill.deliver(0));
                    }
                }
            }
        }
    }

    /** A board that is too long is passed by, and a later one may be taken. */
    private static void passesByWhatIsTooLong() {
        Kerfhall mill = ofLengths(5, 6, 2, 3, 2);
        mill.addOrder(2, 3, 9, 0, 1, false);
        Check.due("5, 2 and 2 of 9", mill.deliver(0), 9);
        Check.due("states", Mills.statesOf(mill), "dydyd");
        Check.due("in the yard", mill.inYard(), 2);
    }

    /** An order whose tolerance is as great as its length can be delivered with nothing, one with less cannot. */
    private static void ordersOfNothing() {
        Kerfhall mill = new Kerfhall();
        mill.addOrder(2, 0, 20, 20, 99, true);
        mill.addOrder(2, 0, 20, 19, 99, false);
        mill.addOrder(3, 3, 1, 0, 99, true);
        mill.addOrder(3, 3, 1, 20, 99, true);
        Check.due("20 less 20", mill.deliver(0), 0);
        Check.refused(mill, "20 less 19", UNSUPPORTED, () -> mill.deliver(1));
        Check.refused(mill, "1 less 0", UNSUPPORTED, () -> mill.deliver(2));
        Check.due("1 less 20", mill.deliver(3), 0);
        Check.refused(mill, "delivered with nothing", UNSUPPORTED, () -> mill.deliver(0));
        Check.due("money", mill.money(), 0L);
        Check.due("balance", mill.balance(), 0);
    }

    /** A certified log's board with a wood of 45, and an uncertified one's with so much, in the order of the yard. */
    private static Kerfhall withBalanceOf45(int dx, int dy, boolean isCertifiedFirst) {
        Kerfhall mill = new Kerfhall();
        Mills.addLog(mill, 4, true, "s");
        Mills.addLog(mill, 4, false, "s");
        mill.setSweep(0, 0, 1, 1);
        mill.setSweep(1, 0, dx, dy);
        mill.saw(isCertifiedFirst ? 0 : 1);
        mill.saw(isCertifiedFirst ? 1 : 0);
        Mills.feedKiln(mill, 2);
        mill.setRule(0, 100, 0, false, false);
        mill.tick(2);
        mill.charge(0);
        mill.tick(21);
        mill.empty();
        Check.due("balance", mill.balance(), 45);
        mill.addOrder(2, 0, 6, 0, 1, true);
        return mill;
    }

    /** "For a certified one, the balance is at least the wood in these boards, which it becomes less by." */
    private static void balanceOfCertifiedOrders() {
        Kerfhall same = withBalanceOf45(1, 1, false);
        Check.due("45 of 45, of a log that is not certified", same.deliver(0), 6);
        Check.due("balance", same.balance(), 0);
        Check.due("states", Mills.statesOf(same), "dy");
        same.addOrder(2, 0, 6, 0, 1, true);
        Check.refused(same, "45 of 0", UNSUPPORTED, () -> same.deliver(1));
        same.addOrder(2, 0, 6, 0, 1, false);
        Check.due("an uncertified order needs none", same.deliver(2), 6);
        Check.due("balance", same.balance(), 0);
        Kerfhall more = withBalanceOf45(1, 0, false);
        Check.refused(more, "46 of 45", UNSUPPORTED, () -> more.deliver(0));
        Check.due("states", Mills.statesOf(more), "yy");
        more.rip(0, 6, 3);
        Check.due("what is left of it", more.deliver(0), 6);
        Check.due("balance", more.balance(), 45 - more.inBoard(0, 'v'));
        Kerfhall less = withBalanceOf45(0, 2, false);
        Check.due("44 of 45", less.deliver(0), 6);
        Check.due("balance", less.balance(), 1);
        Kerfhall first = withBalanceOf45(1, 0, true);
        Check.due("the yard's first", first.deliver(0), 6);
        Check.due("states", Mills.statesOf(first), "dy");
    }

    /** "Each one certified" or not: an uncertified order takes nothing of the balance. */
    private static void balanceOfOtherOrders() {
        Kerfhall mill = withBalanceOf45(1, 0, true);
        mill.addOrder(2, 0, 12, 0, 1, false);
        Check.due("both boards", mill.deliver(1), 12);
        Check.due("balance", mill.balance(), 45);
        Check.refused(mill, "no boards for the certified one", UNSUPPORTED, () -> mill.deliver(0));
    }

    /** A board without any wood needs no balance. */
    private static void boardsWithoutWood() {
        Kerfhall mill = Mills.ofLogs(1, 4, "s");
        for (int slice = 0; slice < 6; slice++) {
            mill.setSweep(0, slice, 2, 2);
        }
        mill.saw(0);
        mill.rip(0, 6, 3);
        Check.due("wood", mill.inBoard(0, 'v'), 0);
        Check.due("share", mill.yieldShare(), 0f);
        Mills.feedKiln(mill, 1);
        mill.tick(1);
        mill.charge(0);
        mill.tick(21);
        mill.empty();
        mill.addOrder(2, 3, 6, 0, 7, true);
        Check.due("delivered", mill.deliver(0), 6);
        Check.due("balance", mill.balance(), 0);
        Check.due("money", mill.money(), 42L);
        Check.due("sold as refused", mill.soldAs(0), 3);
    }

    /** "A price for a slice", from 0 to 99, for the length that is delivered. */
    private static void prices() {
        long due = 0;
        Kerfhall mill = ofLengths(6, 5, 4, 3, 2, 6);
        int[] prices = {0, 1, 50, 99};
        int[] lengths = {6, 5, 4, 3};
        for (int order = 0; order < 4; order++) {
            mill.addOrder(2, 3, lengths[order], 0, prices[order], false);
            Check.due("length", mill.deliver(order), lengths[order]);
            due += (long) prices[order] * lengths[order];
            Check.due("money", mill.money(), due);
        }
        mill.addOrder(2, 3, 9, 1, 99, false);
        Check.due("8 of 9", mill.deliver(4), 8);
        Check.due("money for 8", mill.money(), due + 792);
        Check.due("in the yard", mill.inYard(), 0);
    }

    /** "Returns how many logs lie, and are not sawn": none, some, all. */
    private static void logsThatLie() {
        Kerfhall mill = new Kerfhall();
        Check.due("none", mill.setWeather(true, true), 0);
        for (int log = 0; log < 10; log++) {
            Mills.addLog(mill, 4, false, "s");
            Check.due("one more", mill.setWeather(false, true), log + 1);
        }
        Mills.setPrices(mill, 0, 0);
        for (int log = 0; log < 10; log++) {
            mill.saw(log);
            Check.due("one less", mill.setWeather(true, false), 9 - log);
        }
    }

    /** "Logs that lie are a tick older, if it is warm and they are not sprinkled": each weather, for 11 ticks. */
    private static void ageByTheWeather() {
        for (int weather = 0; weather < 4; weather++) {
            boolean isWarm = weather % 2 == 1;
            boolean isSprinkled = weather >= 2;
            Kerfhall mill = Mills.ofLogs(2, 4, "s");
            mill.setWeather(isWarm, isSprinkled);
            mill.saw(0);
            mill.tick(11);
            mill.saw(1);
            Check.due("sawn before", mill.gradeOf(0), 0);
            Check.due("sawn behind the weather " + weather, mill.gradeOf(1), isWarm && !isSprinkled ? 1 : 0);
            mill.tick(50);
            Check.due("sawn before, long ago", mill.gradeOf(0), 0);
        }
        Kerfhall first = Mills.ofLogs(1, 4, "s");
        first.tick(50);
        first.saw(0);
        Check.due("the weather at first", first.gradeOf(0), 0);
    }

    /** "More than 10 ticks": a log that comes later is younger. */
    private static void ageOfALaterLog() {
        Kerfhall mill = Mills.ofLogs(1, 4, "s");
        mill.setWeather(true, false);
        mill.tick(1);
        Mills.addLog(mill, 4, false, "s");
        mill.tick(10);
        mill.saw(0);
        mill.saw(1);
        Check.due("11 ticks", mill.gradeOf(0), 1);
        Check.due("10 ticks", mill.gradeOf(1), 0);
    }

    /** "The wood in all boards divided by that of the sawn logs": of all states, and of sawn logs without boards. */
    private static void shares() {
        Kerfhall mill = Mills.ofLogs(4, 4, "s");
        mill.addMetal(1, 0, 7, 7);
        mill.saw(0);
        Check.due("48 of 72", mill.yieldShare(), 48f / 72f);
        mill.saw(1);
        Check.due("48 of 144", mill.yieldShare(), 48f / 144f);
        mill.tick(5);
        mill.charge(0);
        Check.due("in the kiln", mill.yieldShare(), 48f / 144f);
        mill.setSweep(2, 0, 1, 1);
        mill.saw(2);
        Check.due("a deviating saw, and wane", mill.yieldShare(), (float) (48 + mill.inBoard(1, 'v')) / 216f);
        mill.rip(1, 7, 3);
        Check.due("cut again", mill.yieldShare(), (float) (48 + mill.inBoard(1, 'v')) / 216f);
    }

    /** "The sum divided by their number", of boards in all states. */
    private static void means() {
        Kerfhall mill = Mills.ofYard(2);
        mill.addOrder(2, 3, 6, 0, 1, false);
        mill.deliver(0);
        Check.due("one delivered, one in the yard", mill.meanMoisture(), 15.0);
        for (int more = 1; more <= 5; more++) {
            int log = Mills.addLog(mill, 4, false, "s");
            mill.saw(log);
            Check.due("and some in the queue", mill.meanMoisture(), (double) (30 + 60 * more) / (double) (2 + more));
        }
    }

    /** "Tells whether the wood of all sawn logs is in boards, chips, dust or was used", at each of its ways. */
    private static void sound() {
        Kerfhall mill = new Kerfhall();
        Check.due("new", mill.isSound(), true);
        Mills.addLog(mill, 12, true, "s");
        mill.setSweep(0, 3, -2, 1);
        Check.due("none sawn", mill.isSound(), true);
        Mills.wearOut(mill);
        Check.due("a log that is all chips", mill.isSound(), true);
        Check.due("boards", mill.saw(0) > 1, true);
        Check.due("cut with a worn saw", mill.isSound(), true);
        mill.trim(0, 1, 3);
        mill.rip(1, mill.partOf(1, 'y') + 1, 3);
        Check.due("cut again", mill.isSound(), true);
        mill.tick(1);
        mill.charge(0);
        mill.tick(50);
        Check.due("dried", mill.isSound(), true);
        mill.empty();
        mill.addOrder(mill.partOf(0, 't'), 3, 3, 0, 1, false);
        Check.due("delivered", mill.deliver(0), 3);
        Check.due("delivered", mill.isSound(), true);
        int sum = mill.chips() + mill.dust() + mill.burnt();
        for (int board = 0; board < mill.boards(); board++) {
            sum += mill.inBoard(board, 'v');
        }
        Check.due("all of the wood", sum, mill.volumeOf(0) + mill.volumeOf(1));
    }

    /** What no call brings about is done by hand here: cells that are lost, or too many, or not as in the log. */
    private static void unsound() {
        Kerfhall mill = Mills.ofYard(2);
        Object stock = Inside.held(mill, "stock");
        for (String kind : new String[] {"chips", "dust", "burnt"}) {
            for (int more : new int[] {1, -1}) {
                Inside.add(stock, kind, more);
                Check.due(more + " of " + kind, mill.isSound(), false);
                Inside.add(stock, kind, -more);
                Check.due("again as it was", mill.isSound(), true);
            }
        }
        for (Object board : (List<?>) Inside.held(mill, "allBoards")) {
            for (String kind : new String[] {"wood", "knots", "rot"}) {
                Inside.add(board, kind, 1);
                Inside.add(stock, "chips", kind.equals("wood") ? -1 : 0);
                Check.due("a board with other " + kind + " than its log", mill.isSound(), false);
                Inside.add(board, kind, -1);
                Inside.add(stock, "chips", kind.equals("wood") ? 1 : 0);
                Check.due("again as it was", mill.isSound(), true);
            }
        }
    }

    public static void main(String[] args) {
        ordersAreNumbered();
        ofTheThickness();
        ofTheWorstGrade();
        ofTheWorstGradeWithChecks();
        ofTheMoisture();
        ofTheYard();
        lengthsWithTolerances();
        passesByWhatIsTooLong();
        ordersOfNothing();
        balanceOfCertifiedOrders();
        balanceOfOtherOrders();
        boardsWithoutWood();
        prices();
        logsThatLie();
        ageByTheWeather();
        ageOfALaterLog();
        shares();
        means();
        sound();
        unsound();
        Check.end("OrderEdgeTest");
    }
}
