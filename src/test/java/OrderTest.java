import java.util.NoSuchElementException;

/** Promises 37 to 49: orders, the balance and what is counted. */
public final class OrderTest {
    private static final Class<IndexOutOfBoundsException> INDEX = IndexOutOfBoundsException.class;
    private static final Class<IllegalArgumentException> ARGUMENT = IllegalArgumentException.class;
    private static final Class<UnsupportedOperationException> UNSUPPORTED = UnsupportedOperationException.class;
    private static final Class<IllegalStateException> STATE = IllegalStateException.class;
    private static final Class<NoSuchElementException> MISSING = NoSuchElementException.class;

    private OrderTest() {
    }

    /**
     * Boards of 2 columns, 6 slices and 48 cells, one a log, the first ones certified, dried to a moisture of 18
     * without stress, in the yard; the last log is all chips, for the heat, as all prices are 0 by then.
     */
    private static Kerfhall millWithYard(int count, int certified) {
        Kerfhall mill = new Kerfhall();
        for (int log = 0; log < count; log++) {
            mill.addLog(4, 4, log < certified);
            mill.scan(log, 's');
            mill.saw(log);
            mill.file();
        }
        mill.tick(count);
        mill.addLog(16, 16, false);
        mill.scan(count, 's');
        for (int thickness = 2; thickness <= 3; thickness++) {
            for (int grade = 0; grade < 3; grade++) {
                mill.setPrice(thickness, grade, 0);
            }
        }
        mill.saw(count);
        mill.charge(0);
        mill.tick(21);
        mill.empty();
        return mill;
    }

    private static void promise37AddOrder() {
        Kerfhall mill = new Kerfhall();
        Check.refused(mill, "thickness 1", ARGUMENT, () -> mill.addOrder(1, 0, 1, 0, 0, true));
        Check.refused(mill, "thickness 4", ARGUMENT, () -> mill.addOrder(4, 0, 1, 0, 0, true));
        Check.refused(mill, "worst -1", ARGUMENT, () -> mill.addOrder(2, -1, 1, 0, 0, true));
        Check.refused(mill, "worst 4", ARGUMENT, () -> mill.addOrder(2, 4, 1, 0, 0, true));
        Check.refused(mill, "length 0", ARGUMENT, () -> mill.addOrder(2, 0, 0, 0, 0, true));
        Check.refused(mill, "length 201", ARGUMENT, () -> mill.addOrder(2, 0, 201, 0, 0, true));
        Check.refused(mill, "tolerance -1", ARGUMENT, () -> mill.addOrder(2, 0, 1, -1, 0, true));
        Check.refused(mill, "tolerance 21", ARGUMENT, () -> mill.addOrder(2, 0, 1, 21, 0, true));
        Check.refused(mill, "price -1", ARGUMENT, () -> mill.addOrder(2, 0, 1, 0, -1, true));
        Check.refused(mill, "price 100", ARGUMENT, () -> mill.addOrder(2, 0, 1, 0, 100, true));
        for (int order = 0; order < 8; order++) {
            boolean isLow = order % 2 == 0;
            Check.due("number", mill.addOrder(isLow ? 2 : 3, isLow ? 0 : 3, isLow ? 1 : 200, isLow ? 0 : 20,
                    isLow ? 0 : 99, isLow), order);
        }
        Check.refused(mill, "a ninth order", STATE, () -> mill.addOrder(2, 0, 1, 0, 0, true));
        Check.refused(mill, "a wrong ninth order", ARGUMENT, () -> mill.addOrder(2, 0, 1, 0, 100, true));
    }

    private static void promise38Deliver() {
        Kerfhall mill = millWithYard(4, 1);
        Check.due("balance", mill.balance(), 48);
        mill.trim(1, 0, 4);
        mill.addOrder(2, 0, 10, 1, 7, false);
        mill.addOrder(2, 0, 16, 1, 1, false);
        mill.addOrder(3, 3, 1, 1, 99, false);
        Check.refused(mill, "order 3", INDEX, () -> mill.deliver(3));
        Check.refused(mill, "order -1", INDEX, () -> mill.deliver(-1));
        Check.due("6 and 4 slices", mill.deliver(0), 10);
        Check.due("states", Mills.statesOf(mill), "ddyy");
        Check.due("money", mill.money(), 70L);
        Check.due("balance of no certified order", mill.balance(), 48);
        Check.refused(mill, "delivered", UNSUPPORTED, () -> mill.deliver(0));
        Check.refused(mill, "too little", UNSUPPORTED, () -> mill.deliver(1));
        Check.due("nothing is taken", Mills.statesOf(mill), "ddyy");
        Check.due("an order of nothing is delivered", mill.deliver(2), 0);
        Check.refused(mill, "but once", UNSUPPORTED, () -> mill.deliver(2));
        Check.due("money", mill.money(), 70L);
        Check.due("sound", mill.isSound(), true);
    }

    private static void promise38Tolerance() {
        Kerfhall mill = millWithYard(3, 0);
        mill.addOrder(2, 3, 19, 1, 1, false);
        mill.addOrder(2, 3, 20, 1, 1, false);
        mill.addOrder(2, 3, 8, 3, 1, false);
        mill.addOrder(2, 3, 8, 4, 1, false);
        mill.addOrder(2, 3, 8, 1, 1, false);
        Check.refused(mill, "18 of 20 less 1", UNSUPPORTED, () -> mill.deliver(1));
        Check.refused(mill, "6 of 8 less 1", UNSUPPORTED, () -> mill.deliver(4));
        Check.due("12 are too many for 8 and 3", mill.deliver(2), 6);
        Check.due("12 are not for 8 and 4", mill.deliver(3), 12);
        Check.refused(mill, "none of 19 less 1", UNSUPPORTED, () -> mill.deliver(0));
        Kerfhall other = millWithYard(3, 0);
        other.addOrder(2, 3, 19, 1, 1, false);
        Check.due("18 of 19 less 1", other.deliver(0), 18);
    }

    private static void promise38Passing() {
        Kerfhall mill = millWithYard(3, 0);
        mill.trim(2, 0, 2);
        mill.trim(0, 0, 5);
        mill.addOrder(2, 3, 7, 0, 1, false);
        Check.due("a board that is too long is passed by", mill.deliver(0), 7);
        Check.due("states", Mills.statesOf(mill), "dyd");
    }

    private static void promise38Fitness() {
        Kerfhall mill = new Kerfhall();
        for (int log = 0; log < 3; log++) {
            mill.addLog(4, 4, false);
            mill.scan(log, 's');
        }
        mill.addRot(1, 0, 1);
        mill.saw(0);
        mill.saw(1);
        mill.saw(2);
        mill.tick(3);
        mill.addLog(16, 16, false);
        mill.scan(3, 's');
        mill.saw(3);
        mill.setStep(0, 1);
        mill.charge(0);
        mill.tick(23);
        Check.due("moisture", mill.moisture(0), 19);
        mill.empty();
        mill.addOrder(2, 3, 6, 0, 1, false);
        Check.refused(mill, "too wet", UNSUPPORTED, () -> mill.deliver(0));
        mill.charge(1);
        mill.tick(24);
        Check.due("moisture", mill.moisture(1), 17);
        mill.empty();
        mill.addOrder(2, 1, 6, 0, 1, false);
        mill.addOrder(3, 3, 6, 0, 1, false);
        mill.addOrder(2, 2, 6, 0, 1, false);
        Check.refused(mill, "a worse grade", UNSUPPORTED, () -> mill.deliver(1));
        Check.refused(mill, "another thickness", UNSUPPORTED, () -> mill.deliver(2));
        Check.due("the worst grade", mill.deliver(3), 6);
        Check.due("sold", mill.soldAs(1), 2);
    }

    private static void promise38Certified() {
        Kerfhall mill = millWithYard(4, 2);
        Check.due("balance", mill.balance(), 96);
        mill.addOrder(2, 3, 18, 0, 1, true);
        mill.addOrder(2, 3, 12, 0, 1, true);
        mill.addOrder(2, 3, 6, 0, 1, true);
        Check.refused(mill, "144 cells", UNSUPPORTED, () -> mill.deliver(0));
        Check.due("nothing is taken", Mills.statesOf(mill) + mill.balance(), "yyyy96");
        mill.rip(0, 6, 3);
        mill.trim(1, 0, 2);
        mill.trim(2, 0, 4);
        Check.due("36, 16 and 32 cells", mill.deliver(1), 12);
        Check.due("the balance is less by these", mill.balance(), 12);
        Check.refused(mill, "48 cells", UNSUPPORTED, () -> mill.deliver(2));
        mill.rip(3, 6, 3);
        mill.trim(3, 0, 2);
        mill.addOrder(2, 3, 2, 0, 1, true);
        Check.due("12 cells are in the balance of 12", mill.deliver(3), 2);
        Check.due("balance", mill.balance(), 0);
        Check.due("money", mill.money(), 14L);
    }

    private static void promise39SoldAs() {
        Kerfhall mill = millWithYard(2, 0);
        mill.addOrder(2, 3, 6, 0, 1, false);
        Check.refused(mill, "not delivered", MISSING, () -> mill.soldAs(0));
        Check.refused(mill, "board 2", INDEX, () -> mill.soldAs(2));
        Check.refused(mill, "board -1", INDEX, () -> mill.soldAs(-1));
        mill.setRule(0, 0, 0, false, false);
        mill.deliver(0);
        Check.due("sold", mill.soldAs(0), 0);
        for (int rule = 0; rule < 3; rule++) {
            mill.setRule(rule, 0, 0, rule == 2, true);
        }
        Check.due("sold", mill.soldAs(0), 0);
        Check.refused(mill, "not delivered", MISSING, () -> mill.soldAs(1));
        Check.due("grade now", mill.gradeOf(0), 0);
    }

    private static void promise39ThoughGradesChange() {
        Kerfhall mill = new Kerfhall();
        mill.addLog(4, 4, false);
        mill.addRot(0, 0, 1);
        mill.scan(0, 's');
        mill.saw(0);
        mill.tick(1);
        mill.setStep(0, 9);
        mill.charge(0);
        mill.tick(5);
        mill.empty();
        mill.addOrder(2, 1, 6, 0, 3, false);
        mill.setRule(0, 0, 2, true, false);
        Check.due("delivered with checks", mill.deliver(0), 6);
        mill.setRule(0, 0, 2, false, false);
        Check.due("grade now", mill.gradeOf(0), 3);
        Check.due("grade then", mill.soldAs(0), 1);
    }

    private static void promise40To42Counts() {
        Kerfhall mill = millWithYard(3, 3);
        Check.due("in the yard", mill.inYard(), 3);
        Check.due("balance", mill.balance(), 144);
        mill.addOrder(2, 3, 12, 0, 99, true);
        mill.addOrder(2, 3, 6, 0, 98, false);
        mill.deliver(0);
        Check.due("in the yard", mill.inYard(), 1);
        Check.due("balance", mill.balance(), 48);
        Check.due("money", mill.money(), 1188L);
        mill.deliver(1);
        Check.due("in the yard", mill.inYard(), 0);
        Check.due("balance", mill.balance(), 48);
        Check.due("money", mill.money(), 1776L);
    }

    private static void promise43To45Cells() {
        Kerfhall mill = new Kerfhall();
        mill.addLog(4, 4, false);
        mill.scan(0, 's');
        mill.saw(0);
        Check.due("chips", mill.chips(), 12);
        Check.due("dust", mill.dust(), 12);
        Check.due("burnt", mill.burnt(), 0);
        mill.rip(0, 6, 3);
        Check.due("dust", mill.dust(), 24);
        mill.trim(0, 0, 5);
        Check.due("chips", mill.chips(), 18);
        mill.tick(1);
        mill.charge(0);
        mill.tick(7);
        Check.due("dust", mill.dust(), 0);
        Check.due("chips", mill.chips(), 14);
        Check.due("burnt", mill.burnt(), 28);
    }

    private static void promise46SetWeather() {
        Kerfhall mill = new Kerfhall();
        Check.due("no logs", mill.setWeather(true, true), 0);
        for (int log = 0; log < 3; log++) {
            mill.addLog(4, 4, false);
            mill.scan(log, 's');
        }
        Check.due("three lie", mill.setWeather(false, true), 3);
        mill.tick(50);
        Check.due("cold and sprinkled", mill.plan(0), 480);
        mill.setWeather(false, false);
        mill.tick(50);
        Check.due("cold", mill.plan(0), 480);
        mill.setWeather(true, true);
        mill.tick(50);
        Check.due("warm and sprinkled", mill.plan(0), 480);
        mill.saw(1);
        Check.due("two lie", mill.setWeather(true, false), 2);
        mill.tick(10);
        Check.due("warm for 10 ticks", mill.plan(0), 480);
        mill.tick(1);
        Check.due("warm for 11 ticks", mill.plan(0), 240);
        Check.due("a sawn log does not lie", mill.gradeOf(0), 0);
        mill.addLog(4, 4, false);
        mill.scan(3, 's');
        Check.due("a new log", mill.plan(3), 480);
    }

    private static void promise47YieldShare() {
        Kerfhall mill = new Kerfhall();
        Check.refused(mill, "no logs", MISSING, () -> mill.yieldShare());
        mill.addLog(4, 4, false);
        mill.scan(0, 's');
        mill.addLog(8, 8, false);
        mill.scan(1, 's');
        Check.refused(mill, "no sawn logs", MISSING, () -> mill.yieldShare());
        mill.saw(0);
        Check.due("48 of 72", mill.yieldShare(), 48f / 72f);
        mill.saw(1);
        int wood = 48 + 144 + mill.inBoard(2, 'v');
        Check.due("of both logs", mill.yieldShare(), (float) wood / 384f);
        mill.trim(0, 0, 2);
        Check.due("as it is now", mill.yieldShare(), (float) (wood - 32) / 384f);
        Kerfhall metal = new Kerfhall();
        metal.addLog(4, 4, false);
        metal.addMetal(0, 0, 7, 7);
        metal.scan(0, 's');
        metal.saw(0);
        Check.due("nothing in boards", metal.yieldShare(), 0f);
        Kerfhall sold = millWithYard(2, 0);
        sold.addOrder(2, 3, 12, 0, 1, false);
        sold.deliver(0);
        Check.due("delivered boards count", sold.yieldShare(), 96f / (144f + sold.volumeOf(2)));
    }

    private static void promise48MeanMoisture() {
        Kerfhall mill = new Kerfhall();
        Check.refused(mill, "no boards", MISSING, () -> mill.meanMoisture());
        for (int log = 0; log < 3; log++) {
            mill.addLog(4, 4, false);
            mill.scan(log, 's');
        }
        Check.refused(mill, "no boards", MISSING, () -> mill.meanMoisture());
        for (int log = 0; log < 3; log++) {
            mill.saw(log);
        }
        Check.due("new boards", mill.meanMoisture(), 60.0);
        mill.tick(1);
        mill.charge(0);
        mill.tick(4);
        Check.due("one is dried", mill.meanMoisture(), 172.0 / 3.0);
    }

    private static void promise49IsSound() {
        Kerfhall mill = millWithYard(5, 2);
        Check.due("sound", mill.isSound(), true);
        mill.rip(0, 7, 3);
        mill.trim(1, 3, 3);
        Check.due("sound", mill.isSound(), true);
        mill.addOrder(2, 3, 9, 0, 1, true);
        Check.due("delivered", mill.deliver(0), 9);
        Check.due("sound", mill.isSound(), true);
        Check.due("a new one", new Kerfhall().isSound(), true);
    }

    public static void main(String[] args) {
        promise37AddOrder();
        promise38Deliver();
        promise38Tolerance();
        promise38Passing();
        promise38Fitness();
        promise38Certified();
        promise39SoldAs();
        promise39ThoughGradesChange();
        promise40To42Counts();
        promise43To45Cells();
        promise46SetWeather();
        promise47YieldShare();
        promise48MeanMoisture();
        promise49IsSound();
        Check.end("OrderTest");
    }
}
