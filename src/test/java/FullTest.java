import java.util.List;

/** Empty and full lists: logs, boards, the queue, bins, the kiln, the yard, orders, as far as calls can fill them. */
public final class FullTest {
    /** Ten logs with five boards each: "at most 100" cannot come about. */
    private static final int MOST_BOARDS = 50;

    private FullTest() {
    }

    /**
     * Ten logs of the greatest diameter, each of them sawn to five boards of 2 columns, all rows and all slices, which
     * a worn saw cannot shift, and which are all of the grade 0.
     */
    private static Kerfhall withMostBoards() {
        Kerfhall mill = Mills.ofLogs(10, 16, "s");
        Mills.setPrices(mill, 10, 0);
        for (int grade = 0; grade < 3; grade++) {
            mill.setRule(grade, 100, 256, true, true);
        }
        for (int log = 0; log < 10; log++) {
            Check.due("planned", mill.planned(log), 5);
            Check.due("boards of a log", mill.saw(log), 5);
            Check.due("boards", mill.boards(), 5 * log + 5);
            Check.due("in the queue", mill.queue(), 5 * log + 5);
        }
        return mill;
    }

    private static void mostBoards() {
        Kerfhall mill = withMostBoards();
        Check.due("boards", mill.boards(), MOST_BOARDS);
        Check.due("the last one's log", mill.logOf(MOST_BOARDS - 1), 9);
        Check.due("the last one", Mills.partsOf(mill, MOST_BOARDS - 1), "14 2 0 16 0 6");
        Check.due("states", Mills.statesOf(mill), "q".repeat(MOST_BOARDS));
        Check.due("moisture", mill.meanMoisture(), 60.0);
        Check.due("sound", mill.isSound(), true);
        Check.refused(mill, "board 50", IndexOutOfBoundsException.class, () -> mill.gradeOf(MOST_BOARDS));
        Check.refused(mill, "an eleventh log", IllegalStateException.class, () -> mill.addLog(16, 16, true));
    }

    /** "At most 100": as calls cannot make so many boards, the same one is put into the list again and again. */
    private static void hundredBoards() {
        for (int before = 94; before <= 97; before++) {
            Kerfhall mill = Mills.ofLogs(2, 16, "s");
            Mills.setPrices(mill, 10, 0);
            for (int grade = 0; grade < 3; grade++) {
                mill.setRule(grade, 100, 256, true, true);
            }
            mill.saw(0);
            fillWithTheFirst((List<?>) Inside.held(mill, "allBoards"), before);
            if (before + 5 <= 100) {
                Check.due("5 boards more than " + before, mill.saw(1), 5);
                Check.due("boards", mill.boards(), before + 5);
            } else {
                Check.refused(mill, "5 boards more than " + before, IllegalStateException.class, () -> mill.saw(1));
            }
        }
    }

    private static <T> void fillWithTheFirst(List<T> list, int size) {
        while (list.size() < size) {
            list.add(list.get(0));
        }
    }

    /** "There are 4 bins for 6 boards each": 24 boards have room, and the next one jams until a bin is emptied. */
    private static void fullBins() {
        Kerfhall mill = withMostBoards();
        Check.due("no jam", mill.tick(23), 0);
        Check.due("bins", Mills.binsOf(mill), "6 of 20, 6 of 20, 6 of 20, 5 of 20, 27 wait");
        Check.due("no jam", mill.tick(1), 0);
        Check.due("bins", Mills.binsOf(mill), "6 of 20, 6 of 20, 6 of 20, 6 of 20, 26 wait");
        Check.due("jams", mill.tick(50), 50);
        Check.due("bins", Mills.binsOf(mill), "6 of 20, 6 of 20, 6 of 20, 6 of 20, 26 wait");
        Check.due("a full bin", mill.charge(2), 6);
        Check.due("jams when the bin is full again", mill.tick(8), 2);
        Check.due("bins", Mills.binsOf(mill), "6 of 20, 6 of 20, 6 of 20, 6 of 20, 20 wait");
    }

    /** All boards go through the kiln, six at a time, and are delivered in orders as long as there can be. */
    private static void fullYard() {
        Kerfhall mill = withMostBoards();
        mill.tick(24);
        int dried = 0;
        for (int load = 0; dried < MOST_BOARDS; load++) {
            Check.due("in the yard", mill.inYard(), dried);
            int count = mill.charge(load % 4);
            Check.due("boards of a load", count, Math.min(6, MOST_BOARDS - dried));
            mill.tick(21);
            Check.due("emptied", mill.empty(), count);
            dried += count;
        }
        Check.due("in the yard", mill.inYard(), MOST_BOARDS);
        Check.due("states", Mills.statesOf(mill), "y".repeat(MOST_BOARDS));
        Check.due("bins", Mills.binsOf(mill), "0, 0, 0, 0, 0 wait");
        Check.due("moisture", mill.meanMoisture(), 18.0);
        mill.addOrder(2, 0, 200, 20, 99, false);
        Check.due("36 boards of 6 are 216, 37 would be 222", mill.deliver(0), 216);
        Check.due("in the yard", mill.inYard(), 14);
        mill.addOrder(2, 0, 200, 20, 99, false);
        Check.refused(mill, "84 of 180", UnsupportedOperationException.class, () -> mill.deliver(1));
        mill.addOrder(2, 0, 64, 20, 99, false);
        Check.due("all that is left", mill.deliver(2), 84);
        Check.due("in the yard", mill.inYard(), 0);
        Check.due("states", Mills.statesOf(mill), "d".repeat(MOST_BOARDS));
        Check.due("money", mill.money(), 99L * 300L);
        Check.due("sound", mill.isSound(), true);
    }

    /** Lists that have nothing, and have nothing again. */
    private static void emptyLists() {
        Kerfhall mill = new Kerfhall();
        Check.due("jams of an empty queue", mill.tick(50), 0);
        Check.due("bins", Mills.binsOf(mill), "0, 0, 0, 0, 0 wait");
        Check.due("yard", mill.inYard(), 0);
        Check.due("boards", mill.boards(), 0);
        Check.due("logs", mill.setWeather(false, false), 0);
        Check.due("heat", Mills.heatOf(mill), "0 dust, 0 chips, 0 burnt");
        Kerfhall sold = Mills.ofYard(6);
        Check.due("a full kiln's boards", sold.inYard(), 6);
        sold.addOrder(2, 3, 36, 0, 1, false);
        Check.due("sold", sold.deliver(0), 36);
        Check.due("bins", Mills.binsOf(sold), "0, 0, 0, 0, 0 wait");
        Check.due("yard", sold.inYard(), 0);
        Check.due("boards", sold.boards(), 6);
        Check.refused(sold, "an empty kiln", IllegalStateException.class, () -> sold.empty());
        for (int bin = 0; bin < 4; bin++) {
            int empty = bin;
            Check.refused(sold, "an empty bin", UnsupportedOperationException.class, () -> sold.charge(empty));
        }
    }

    /** Eight orders, all of which are delivered: six with a board each, two with nothing. */
    private static void fullOrders() {
        Kerfhall mill = Mills.ofYard(6);
        for (int order = 0; order < 8; order++) {
            Check.due("number", mill.addOrder(2, 3, 6, order < 6 ? 0 : 6, 5, false), order);
        }
        for (int order = 0; order < 8; order++) {
            Check.due("length of order " + order, mill.deliver(order), order < 6 ? 6 : 0);
            Check.due("money", mill.money(), 30L * Math.min(6, order + 1));
        }
        for (int order = 0; order < 8; order++) {
            int each = order;
            Check.refused(mill, "delivered", UnsupportedOperationException.class, () -> mill.deliver(each));
        }
        Check.refused(mill, "a ninth", IllegalStateException.class, () -> mill.addOrder(2, 3, 6, 6, 5, false));
    }

    public static void main(String[] args) {
        mostBoards();
        hundredBoards();
        fullBins();
        fullYard();
        emptyLists();
        fullOrders();
        Check.end("FullTest");
    }
}
