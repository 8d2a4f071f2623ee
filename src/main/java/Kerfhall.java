import java.util.ArrayList;
import java.util.NoSuchElementException;

/** A sawmill from logs to dry boards; shared/DOC.md says what each call promises. */
public final class Kerfhall {
    private static final int MOST_LOGS = 10;
    private static final int MOST_BOARDS = 100;
    private static final int MOST_ORDERS = 8;
    private static final int SLICES = 6;
    private static final int SIDE = 16;
    private static final int THINNEST = 2;
    private static final int THICKEST = 3;
    private static final int LEAST_WIDTH = 3;
    private static final int LEAST_LENGTH = 2;
    private static final int REFUSED = 3;
    private static final int BINS = 4;
    private static final int BIN_ROOM = 6;
    private static final int STEPS = 4;
    private static final int STEP_TICKS = 5;
    private static final int HEAT_OF_TICK = 4;
    private static final int HEAT_OF_CONDITIONING = 6;
    private static final int DRY_ENOUGH = 18;
    private static final int MOST_WEAR = 9;
    private static final int DEVIATING_WEAR = 6;
    private static final int STOP_TICKS = 5;
    private static final String SCAN_LETTERS = "slrm";
    private static final String PART_LETTERS = "xtywsl";
    private static final String CONTENT_LETTERS = "vnkr";

    // A cell is one long with 16 bits for each of these, so that one sum over cells,
    // a tally, counts all four; a log has only 1,536 cells, so no count flows over.
    private static final int KNOT_SHIFT = 16;
    private static final int ROT_SHIFT = 32;
    private static final int METAL_SHIFT = 48;
    private static final long COUNT_MASK = 0xFFFFL;
    private static final long BARE = 1L;
    private static final long KNOT = 1L << KNOT_SHIFT;
    private static final long ROT = 1L << ROT_SHIFT;
    private static final long METAL = 1L << METAL_SHIFT;

    private final ArrayList<Log> logs = new ArrayList<Log>();
    private final ArrayList<Board> allBoards = new ArrayList<Board>();
    private final ArrayList<Order> orders = new ArrayList<Order>();
    private final ArrayList<Board> waiting = new ArrayList<Board>();
    private final ArrayList<Bin> bins = new ArrayList<Bin>();
    private final ArrayList<Board> yard = new ArrayList<Board>();
    private final Rules rules = new Rules();
    private final Planner planner = new Planner();
    private final Kiln kiln = new Kiln();
    private final Stock stock = new Stock();
    private int sawWear;
    private int stopTicks;
    private int certifiedWood;
    private long paid;
    private boolean isWarmNow;
    private boolean isSprinkledNow;

    public Kerfhall() {
        for (int bin = 0; bin < BINS; bin++) {
            bins.add(new Bin());
        }
    }

    // Logs and scanners

    public int addLog(int butt, int top, boolean isCertified)
            throws IllegalArgumentException, IllegalStateException {
        requireRange(butt, 4, 16);
        requireRange(top, 4, butt);
        if (logs.size() >= MOST_LOGS) {
            throw new IllegalStateException("there are 10 logs");
        }
        logs.add(new Log(butt, top, isCertified));
        return logs.size() - 1;
    }

    public int setSweep(int log, int slice, int dx, int dy)
            throws IndexOutOfBoundsException, IllegalArgumentException, UnsupportedOperationException {
        Slice place = sliceAt(log, slice);
        requireRange(dx, -2, 2);
        requireRange(dy, -2, 2);
        requireUnsawn(log);
        planner.forget();
        place.sweepTo(dx, dy);
        return woodIn(place.tallyAll(), SIDE * SIDE);
    }

    public int addKnot(int log, int slice, int x, int y, int size)
            throws IndexOutOfBoundsException, IllegalArgumentException, UnsupportedOperationException {
        Slice place = sliceAt(log, slice);
        requireRange(size, 1, 4);
        requireRange(x, 0, SIDE - size);
        requireRange(y, 0, SIDE - size);
        requireUnsawn(log);
        planner.forget();
        place.markKnot(x, y, size);
        return knotsIn(place.tallyAll());
    }

    public int addRot(int log, int slice, int radius)
            throws IndexOutOfBoundsException, IllegalArgumentException, UnsupportedOperationException {
        Slice place = sliceAt(log, slice);
        requireRange(radius, 1, 8);
        requireUnsawn(log);
        planner.forget();
        place.growRot(radius);
        return rotIn(place.tallyAll());
    }

    public boolean addMetal(int log, int slice, int x, int y)
            throws IndexOutOfBoundsException, IllegalArgumentException, UnsupportedOperationException {
        Slice place = sliceAt(log, slice);
        requireCell(x, y);
        requireUnsawn(log);
        planner.forget();
        place.markMetal(x, y);
        return place.cellAt(x, y) != BARE;
    }

    public boolean scan(int log, char kind)
            throws IndexOutOfBoundsException, IllegalArgumentException, UnsupportedOperationException {
        Log scanned = logAt(log);
        requireLetter(SCAN_LETTERS, kind);
        requireUnsawn(log);
        planner.forget();
        return scanned.addScan(kind);
    }

    public int volumeOf(int log) throws IndexOutOfBoundsException {
        return logAt(log).countWood();
    }

    public char seenAt(int log, int slice, int x, int y)
            throws IndexOutOfBoundsException, IllegalArgumentException, UnsupportedOperationException {
        Slice place = sliceAt(log, slice);
        Log scanned = logAt(log);
        requireCell(x, y);
        if (!scanned.isOutlineSeen()) {
            throw new UnsupportedOperationException("the log was not scanned by 's' or 'l'");
        }
        return letterOf(scanned.looksAt(place, x, y));
    }

    // Rules and plans

    public int setRule(int grade, int wane, int knots, boolean isRot, boolean isStain)
            throws IllegalArgumentException {
        requireRange(grade, 0, REFUSED - 1);
        requireRange(wane, 0, 100);
        requireRange(knots, 0, 256);
        planner.forget();
        return rules.changeRule(grade, wane, knots, isRot, isStain);
    }

    public int setPrice(int thickness, int grade, int price) throws IllegalArgumentException {
        requireRange(thickness, THINNEST, THICKEST);
        requireRange(grade, 0, REFUSED - 1);
        requireRange(price, 0, 99);
        planner.forget();
        return rules.changePrice(thickness, grade, price);
    }

    public int plan(int log) throws IndexOutOfBoundsException, UnsupportedOperationException {
        Log target = logAt(log);
        requirePlannable(target);
        planner.prepare(log, target, rules);
        return planner.worth();
    }

    public int planned(int log) throws IndexOutOfBoundsException, UnsupportedOperationException {
        Log target = logAt(log);
        requirePlannable(target);
        planner.prepare(log, target, rules);
        return planner.cuts().size();
    }

    public int plannedAt(int log, int index, char what)
            throws IndexOutOfBoundsException, IllegalArgumentException, UnsupportedOperationException,
            NoSuchElementException {
        Log target = logAt(log);
        requireLetter(PART_LETTERS, what);
        requirePlannable(target);
        planner.prepare(log, target, rules);
        if (index < 0 || index >= planner.cuts().size()) {
            throw new NoSuchElementException("the plan has no such board");
        }
        return planner.cuts().get(index).part(what);
    }

    // Sawing

    public int saw(int log)
            throws IndexOutOfBoundsException, UnsupportedOperationException, IllegalStateException {
        Log target = logAt(log);
        requirePlannable(target);
        if (stopTicks > 0) {
            throw new IllegalStateException("the saw is stopped");
        }
        planner.prepare(log, target, rules);
        int count = countCuttable(target, planner.cuts());
        if (allBoards.size() + count > MOST_BOARDS) {
            throw new IllegalStateException("there would be more than 100 boards");
        }
        target.markSawn();
        cutBoards(log, target, count);
        wearSaw(count < planner.cuts().size());
        return count;
    }

    public int wear() {
        return sawWear;
    }

    public int file() {
        int before = sawWear;
        sawWear = 0;
        return before;
    }

    public int stopped() {
        return stopTicks;
    }

    public int boards() {
        return allBoards.size();
    }

    public int partOf(int board, char what) throws IndexOutOfBoundsException, IllegalArgumentException {
        Board asked = boardAt(board);
        requireLetter(PART_LETTERS, what);
        return asked.cut.part(what);
    }

    public int inBoard(int board, char what) throws IndexOutOfBoundsException, IllegalArgumentException {
        Board asked = boardAt(board);
        requireLetter(CONTENT_LETTERS, what);
        if (what == 'v') {
            return asked.wood;
        }
        if (what == 'n') {
            return asked.wane();
        }
        return what == 'k' ? asked.knots : asked.rot;
    }

    public int gradeOf(int board) throws IndexOutOfBoundsException {
        return boardAt(board).gradeBy(rules);
    }

    public char stateOf(int board) throws IndexOutOfBoundsException {
        return boardAt(board).state;
    }

    public int logOf(int board) throws IndexOutOfBoundsException {
        return boardAt(board).logNumber;
    }

    public int trim(int board, int first, int length)
            throws IndexOutOfBoundsException, IllegalArgumentException, UnsupportedOperationException {
        Board changed = boardAt(board);
        Cut cut = changed.cut;
        requireWithin(first, length, cut.start, cut.length, LEAST_LENGTH);
        requireCuttable(changed);
        int before = changed.wood;
        changed.keepSlices(first, length);
        int chipped = before - changed.wood;
        stock.chips += chipped;
        return chipped;
    }

    public int rip(int board, int low, int width)
            throws IndexOutOfBoundsException, IllegalArgumentException, UnsupportedOperationException {
        Board changed = boardAt(board);
        Cut cut = changed.cut;
        requireWithin(low, width, cut.y, cut.width, LEAST_WIDTH);
        requireCuttable(changed);
        int before = changed.wood;
        int sawn = changed.countRowWood(low - 1) + changed.countRowWood(low + width);
        changed.keepRows(low, width);
        stock.dust += sawn;
        stock.chips += before - changed.wood - sawn;
        return sawn;
    }

    // Sorter and kiln

    public int tick(int ticks) throws IllegalArgumentException {
        requireRange(ticks, 1, 50);
        planner.forget();
        int jams = 0;
        for (int done = 0; done < ticks; done++) {
            ageLogs();
            stopTicks = Math.max(0, stopTicks - 1);
            if (!sortFirst()) {
                jams++;
            }
            kiln.dryForTick(stock);
        }
        return jams;
    }

    public int queue() {
        return waiting.size();
    }

    public int inBin(int bin) throws IndexOutOfBoundsException {
        return binAt(bin).content.size();
    }

    public int classOf(int bin) throws IndexOutOfBoundsException, NoSuchElementException {
        Bin asked = binAt(bin);
        if (asked.content.isEmpty()) {
            throw new NoSuchElementException("the bin is empty");
        }
        return asked.kind;
    }

    public int setStep(int step, int drop) throws IllegalArgumentException {
        requireRange(step, 0, STEPS - 1);
        requireRange(drop, 1, 9);
        return kiln.changeDrop(step, drop);
    }

    public int charge(int bin)
            throws IndexOutOfBoundsException, UnsupportedOperationException, IllegalStateException {
        Bin source = binAt(bin);
        if (source.content.isEmpty()) {
            throw new UnsupportedOperationException("the bin is empty");
        }
        if (!kiln.content.isEmpty()) {
            throw new IllegalStateException("the kiln has boards");
        }
        moveAll(source.content, kiln.content, 'k');
        kiln.begin();
        return kiln.content.size();
    }

    public int condition() throws UnsupportedOperationException, IllegalStateException {
        if (!stock.hasHeat(HEAT_OF_CONDITIONING)) {
            throw new UnsupportedOperationException("there is not enough dust and chips");
        }
        requireKilnCharged();
        stock.burn(HEAT_OF_CONDITIONING);
        return kiln.relax();
    }

    public int empty() throws IllegalStateException {
        requireKilnCharged();
        int count = kiln.content.size();
        moveAll(kiln.content, yard, 'y');
        return count;
    }

    public int moisture(int board) throws IndexOutOfBoundsException {
        return boardAt(board).water;
    }

    public boolean hasChecks(int board) throws IndexOutOfBoundsException {
        return boardAt(board).isChecked;
    }

    // Orders and balance

    public int addOrder(int thickness, int worst, int length, int tolerance, int price, boolean isCertified)
            throws IllegalArgumentException, IllegalStateException {
        requireRange(thickness, THINNEST, THICKEST);
        requireRange(worst, 0, REFUSED);
        requireRange(length, 1, 200);
        requireRange(tolerance, 0, 20);
        requireRange(price, 0, 99);
        if (orders.size() >= MOST_ORDERS) {
            throw new IllegalStateException("there are 8 orders");
        }
        orders.add(new Order(thickness, worst, length, tolerance, price, isCertified));
        return orders.size() - 1;
    }

    public int deliver(int order) throws IndexOutOfBoundsException, UnsupportedOperationException {
        Order wanted = orderAt(order);
        if (wanted.isDelivered) {
            throw new UnsupportedOperationException("the order was delivered");
        }
        ArrayList<Board> taken = wanted.pickFrom(yard, rules);
        int length = totalLength(taken);
        int wood = totalWood(taken);
        if (length < wanted.length - wanted.tolerance || wanted.isCertified && certifiedWood < wood) {
            throw new UnsupportedOperationException("the order cannot be delivered");
        }
        handOver(taken);
        wanted.isDelivered = true;
        if (wanted.isCertified) {
            certifiedWood -= wood;
        }
        paid += (long) wanted.price * length;
        return length;
    }

    public int soldAs(int board) throws IndexOutOfBoundsException, NoSuchElementException {
        Board asked = boardAt(board);
        if (asked.state != 'd') {
            throw new NoSuchElementException("the board was not delivered");
        }
        return asked.soldGrade;
    }

    public int inYard() {
        return yard.size();
    }

    public int balance() {
        return certifiedWood;
    }

    public long money() {
        return paid;
    }

    public int chips() {
        return stock.chips;
    }

    public int dust() {
        return stock.dust;
    }

    public int burnt() {
        return stock.burnt;
    }

    public int setWeather(boolean isWarm, boolean isSprinkled) {
        isWarmNow = isWarm;
        isSprinkledNow = isSprinkled;
        int lying = 0;
        for (int log = 0; log < logs.size(); log++) {
            if (!logs.get(log).isSawn) {
                lying++;
            }
        }
        return lying;
    }

    public float yieldShare() throws NoSuchElementException {
        int sawn = woodOfSawnLogs();
        if (sawn == 0) {
            throw new NoSuchElementException("no log was sawn");
        }
        return (float) totalWood(allBoards) / (float) sawn;
    }

    public double meanMoisture() throws NoSuchElementException {
        if (allBoards.isEmpty()) {
            throw new NoSuchElementException("there are no boards");
        }
        int sum = 0;
        for (int board = 0; board < allBoards.size(); board++) {
            sum += allBoards.get(board).water;
        }
        return (double) sum / (double) allBoards.size();
    }

    public boolean isSound() {
        for (int board = 0; board < allBoards.size(); board++) {
            if (!allBoards.get(board).isAsItsLog()) {
                return false;
            }
        }
        return totalWood(allBoards) + stock.chips + stock.dust + stock.burnt == woodOfSawnLogs();
    }

    // What the calls share

    private static void requireRange(int number, int low, int high) {
        if (number < low || number > high) {
            throw new IllegalArgumentException("a number is out of range");
        }
    }

    private static void requireCell(int x, int y) {
        requireRange(x, 0, SIDE - 1);
        requireRange(y, 0, SIDE - 1);
    }

    private static void requireLetter(String letters, char letter) {
        if (letters.indexOf(letter) < 0) {
            throw new IllegalArgumentException("there is no such letter");
        }
    }

    /** Refuses a part that is not all within the whole or is too short; no sum here can wrap round. */
    private static void requireWithin(int first, int count, int low, int room, int least) {
        requireRange(count, least, room);
        requireRange(first, low, low + room - count);
    }

    private static void requireCuttable(Board board) {
        if (board.state == 'k' || board.state == 'd') {
            throw new UnsupportedOperationException("the board is in the kiln, or delivered");
        }
    }

    private static void requirePlannable(Log log) {
        if (!log.isOutlineSeen() || log.isSawn) {
            throw new UnsupportedOperationException("the log was not scanned by 's' or 'l', or was sawn");
        }
    }

    private void requireUnsawn(int log) {
        if (logAt(log).isSawn) {
            throw new UnsupportedOperationException("the log was sawn");
        }
    }

    private void requireKilnCharged() {
        if (kiln.content.isEmpty()) {
            throw new IllegalStateException("the kiln has no boards");
        }
    }

    private Log logAt(int log) {
        if (log < 0 || log >= logs.size()) {
            throw new IndexOutOfBoundsException("there is no such log");
        }
        return logs.get(log);
    }

    private Slice sliceAt(int log, int slice) {
        Log owner = logAt(log);
        if (slice < 0 || slice >= SLICES) {
            throw new IndexOutOfBoundsException("there is no such slice");
        }
        return owner.slices[slice];
    }

    private Board boardAt(int board) {
        if (board < 0 || board >= allBoards.size()) {
            throw new IndexOutOfBoundsException("there is no such board");
        }
        return allBoards.get(board);
    }

    private Bin binAt(int bin) {
        if (bin < 0 || bin >= bins.size()) {
            throw new IndexOutOfBoundsException("there is no such bin");
        }
        return bins.get(bin);
    }

    private Order orderAt(int order) {
        if (order < 0 || order >= orders.size()) {
            throw new IndexOutOfBoundsException("there is no such order");
        }
        return orders.get(order);
    }

    private static int bareIn(long tally) {
        return (int) (tally & COUNT_MASK);
    }

    private static int knotsIn(long tally) {
        return (int) (tally >>> KNOT_SHIFT & COUNT_MASK);
    }

    private static int rotIn(long tally) {
        return (int) (tally >>> ROT_SHIFT & COUNT_MASK);
    }

    private static int woodIn(long tally, int cells) {
        return cells - bareIn(tally);
    }

    private static char letterOf(long cell) {
        if ((cell & METAL) != 0) {
            return 'm';
        }
        boolean isRot = (cell & ROT) != 0;
        if ((cell & KNOT) != 0) {
            return isRot ? 'K' : 'k';
        }
        if (isRot) {
            return 'r';
        }
        return (cell & BARE) != 0 ? '.' : 'w';
    }

    /** Counts the boards ahead of the first one at which metal stops the saw. */
    private static int countCuttable(Log log, ArrayList<Cut> cuts) {
        for (int index = 0; index < cuts.size(); index++) {
            Cut cut = cuts.get(index);
            if (log.hasMetalInColumns(cut.x, cut.x + cut.thickness)) {
                return index;
            }
        }
        return cuts.size();
    }

    private void cutBoards(int number, Log log, int count) {
        int kept = 0;
        int lost = 0;
        for (int index = 0; index < count; index++) {
            Cut cut = planner.cuts().get(index);
            Board board = new Board(number, log, cut, sawWear >= DEVIATING_WEAR);
            allBoards.add(board);
            waiting.add(board);
            kept += board.wood;
            lost += log.countColumnWood(cut.x + cut.thickness);
        }
        if (log.isCertified) {
            certifiedWood += kept;
        }
        stock.dust += lost;
        stock.chips += log.countWood() - kept - lost;
    }

    private void wearSaw(boolean isStoppedByMetal) {
        if (isStoppedByMetal) {
            sawWear = MOST_WEAR;
            stopTicks = STOP_TICKS;
        } else {
            sawWear = Math.min(MOST_WEAR, sawWear + 1);
        }
    }

    private void ageLogs() {
        if (!isWarmNow || isSprinkledNow) {
            return;
        }
        for (int log = 0; log < logs.size(); log++) {
            logs.get(log).growOlder();
        }
    }

    /** Sorts the first board of the queue, if there is one; false if it is jammed. */
    private boolean sortFirst() {
        if (waiting.isEmpty()) {
            return true;
        }
        Board first = waiting.get(0);
        int kind = 10 * first.cut.thickness + first.gradeBy(rules);
        int bin = findBin(kind);
        if (bin < 0) {
            return false;
        }
        waiting.remove(0);
        bins.get(bin).put(first, kind);
        return true;
    }

    private int findBin(int kind) {
        for (int bin = 0; bin < bins.size(); bin++) {
            if (bins.get(bin).takes(kind)) {
                return bin;
            }
        }
        for (int bin = 0; bin < bins.size(); bin++) {
            if (bins.get(bin).content.isEmpty()) {
                return bin;
            }
        }
        return -1;
    }

    private static void moveAll(ArrayList<Board> from, ArrayList<Board> to, char state) {
        for (int index = 0; index < from.size(); index++) {
            Board board = from.get(index);
            board.state = state;
            to.add(board);
        }
        from.clear();
    }

    private void handOver(ArrayList<Board> taken) {
        for (int index = 0; index < taken.size(); index++) {
            Board board = taken.get(index);
            board.soldGrade = board.gradeBy(rules);
            board.state = 'd';
        }
        for (int index = yard.size() - 1; index >= 0; index--) {
            if (yard.get(index).state == 'd') {
                yard.remove(index);
            }
        }
    }

    private static int totalLength(ArrayList<Board> some) {
        int sum = 0;
        for (int index = 0; index < some.size(); index++) {
            sum += some.get(index).cut.length;
        }
        return sum;
    }

    private static int totalWood(ArrayList<Board> some) {
        int sum = 0;
        for (int index = 0; index < some.size(); index++) {
            sum += some.get(index).wood;
        }
        return sum;
    }

    private int woodOfSawnLogs() {
        int sum = 0;
        for (int log = 0; log < logs.size(); log++) {
            if (logs.get(log).isSawn) {
                sum += logs.get(log).countWood();
            }
        }
        return sum;
    }

    /** One of the six slices of a log. */
    private static final class Slice {
        private final int diameter;
        private final boolean[] knots = new boolean[SIDE * SIDE];
        private final boolean[] metal = new boolean[SIDE * SIDE];
        private final long[] cells = new long[SIDE * SIDE];
        private int dx;
        private int dy;
        private int rotRadius;

        Slice(int diameter) {
            this.diameter = diameter;
            renewCells();
        }

        /** The square of twice the distance of a cell's middle from the middle of a slice without sweep. */
        private static int spread(int x, int y) {
            int across = 2 * (x - SIDE / 2) + 1;
            int up = 2 * (y - SIDE / 2) + 1;
            return across * across + up * up;
        }

        /** A cell is BARE, or has any of KNOT, ROT and METAL in its wood. */
        private void renewCells() {
            for (int x = 0; x < SIDE; x++) {
                for (int y = 0; y < SIDE; y++) {
                    int index = x * SIDE + y;
                    int spread = spread(x - dx, y - dy);
                    long knot = knots[index] ? KNOT : 0;
                    long rot = spread <= 4 * rotRadius * rotRadius ? ROT : 0;
                    long inside = knot | rot | (metal[index] ? METAL : 0);
                    cells[index] = spread <= diameter * diameter ? inside : BARE;
                }
            }
        }

        /** What there truly is in a cell of the slice. */
        long cellAt(int x, int y) {
            return cells[x * SIDE + y];
        }

        /** What a cell would be if the slice had no sweep: BARE, or 0 for wood. */
        long outlineAt(int x, int y) {
            return spread(x, y) <= diameter * diameter ? 0 : BARE;
        }

        long tally(int fromX, int toX, int fromY, int toY) {
            long sum = 0;
            for (int x = fromX; x < toX; x++) {
                for (int y = fromY; y < toY; y++) {
                    sum += cells[x * SIDE + y];
                }
            }
            return sum;
        }

        long tallyAll() {
            return tally(0, SIDE, 0, SIDE);
        }

        void sweepTo(int newDx, int newDy) {
            dx = newDx;
            dy = newDy;
            renewCells();
        }

        void markKnot(int fromX, int fromY, int size) {
            for (int x = fromX; x < fromX + size; x++) {
                for (int y = fromY; y < fromY + size; y++) {
                    knots[x * SIDE + y] = true;
                }
            }
            renewCells();
        }

        void growRot(int radius) {
            rotRadius = Math.max(rotRadius, radius);
            renewCells();
        }

        void markMetal(int x, int y) {
            metal[x * SIDE + y] = true;
            renewCells();
        }
    }

    /** A log, its scans, and for how long it lay in warm weather. */
    private static final class Log {
        private static final int STAINING_AGE = 10;

        private final Slice[] slices = new Slice[SLICES];
        private final boolean isCertified;
        private boolean isDiameterScanned;
        private boolean isSweepScanned;
        private boolean isInsideScanned;
        private boolean isMetalScanned;
        private boolean isSawn;
        private int age;

        Log(int butt, int top, boolean isCertified) {
            this.isCertified = isCertified;
            for (int slice = 0; slice < SLICES; slice++) {
                slices[slice] = new Slice(butt - (butt - top) * slice / (SLICES - 1));
            }
        }

        /** Adds a scan and tells whether it is a new one. */
        boolean addScan(char kind) {
            boolean before;
            if (kind == 's') {
                before = isDiameterScanned;
                isDiameterScanned = true;
            } else if (kind == 'l') {
                before = isSweepScanned;
                isSweepScanned = true;
            } else if (kind == 'r') {
                before = isInsideScanned;
                isInsideScanned = true;
            } else {
                before = isMetalScanned;
                isMetalScanned = true;
            }
            return !before;
        }

        boolean isOutlineSeen() {
            return isDiameterScanned || isSweepScanned;
        }

        /** What is seen of a cell by all scans. */
        long looksAt(Slice slice, int x, int y) {
            long truth = slice.cellAt(x, y);
            long outline = isSweepScanned ? truth & BARE : slice.outlineAt(x, y);
            long inside = isInsideScanned ? truth & (KNOT | ROT) : 0;
            return outline | inside | (isMetalScanned ? truth & METAL : 0);
        }

        void growOlder() {
            if (!isSawn) {
                age++;
            }
        }

        boolean isStained() {
            return age > STAINING_AGE;
        }

        void markSawn() {
            isSawn = true;
        }

        int countWood() {
            long sum = 0;
            for (int slice = 0; slice < SLICES; slice++) {
                sum += slices[slice].tallyAll();
            }
            return woodIn(sum, SLICES * SIDE * SIDE);
        }

        /** What is in a column, in all rows and slices; it must be one of the log. */
        private long tallyColumn(int column) {
            long sum = 0;
            for (int slice = 0; slice < SLICES; slice++) {
                sum += slices[slice].tally(column, column + 1, 0, SIDE);
            }
            return sum;
        }

        /** The wood of a column; none behind the last one. */
        int countColumnWood(int column) {
            return column < SIDE ? woodIn(tallyColumn(column), SLICES * SIDE) : 0;
        }

        boolean hasMetalInColumns(int first, int last) {
            for (int column = first; column <= last && column < SIDE; column++) {
                if (tallyColumn(column) >= METAL) {
                    return true;
                }
            }
            return false;
        }
    }

    /** The place of a board in its log. */
    private static final class Cut {
        private int x;
        private int thickness;
        private int y;
        private int width;
        private int start;
        private int length;

        int part(char what) {
            if (what == 'x') {
                return x;
            }
            if (what == 't') {
                return thickness;
            }
            if (what == 'y') {
                return y;
            }
            if (what == 'w') {
                return width;
            }
            return what == 's' ? start : length;
        }

        int volume() {
            return thickness * width * length;
        }

        void copyFrom(Cut other) {
            x = other.x;
            thickness = other.thickness;
            y = other.y;
            width = other.width;
            start = other.start;
            length = other.length;
        }
    }

    /** A board, wherever it is, and how dry it is. */
    private static final class Board {
        private static final int FIRST_MOISTURE = 60;
        private static final int LEAST_MOISTURE = 6;
        private static final int MOST_STRESS = 5;

        private final int logNumber;
        private final Log log;
        private final Cut cut = new Cut();
        private int wood;
        private int knots;
        private int rot;
        private char state = 'q';
        private int water = FIRST_MOISTURE;
        private int stress;
        private boolean isChecked;
        private int soldGrade;

        Board(int logNumber, Log log, Cut plannedCut, boolean isDeviating) {
            this.logNumber = logNumber;
            this.log = log;
            cut.copyFrom(plannedCut);
            if (isDeviating && cut.y + cut.width < SIDE) {
                cut.y++;
            }
            measure();
        }

        private void measure() {
            wood = countWoodIn(cut.y, cut.width);
            knots = countKnots();
            rot = countRot();
        }

        private long tallyOf(int slice, int low, int width) {
            return log.slices[slice].tally(cut.x, cut.x + cut.thickness, low, low + width);
        }

        private int countWoodIn(int low, int width) {
            long sum = 0;
            for (int slice = cut.start; slice < cut.start + cut.length; slice++) {
                sum += tallyOf(slice, low, width);
            }
            return woodIn(sum, cut.thickness * width * cut.length);
        }

        private int countKnots() {
            int most = 0;
            for (int slice = cut.start; slice < cut.start + cut.length; slice++) {
                most = Math.max(most, knotsIn(tallyOf(slice, cut.y, cut.width)));
            }
            return most;
        }

        private int countRot() {
            int count = 0;
            for (int slice = cut.start; slice < cut.start + cut.length; slice++) {
                count += rotIn(tallyOf(slice, cut.y, cut.width));
            }
            return count;
        }

        /** The wood of one of its rows; none where it has no such row. */
        int countRowWood(int row) {
            boolean isOutside = row < cut.y || row >= cut.y + cut.width;
            return isOutside ? 0 : countWoodIn(row, 1);
        }

        int wane() {
            return cut.volume() - wood;
        }

        int gradeBy(Rules rules) {
            int grade = rules.gradeFor(cut.volume(), wane(), knots, rot > 0, log.isStained());
            return isChecked ? Math.min(REFUSED, grade + 1) : grade;
        }

        void keepSlices(int first, int length) {
            cut.start = first;
            cut.length = length;
            measure();
        }

        void keepRows(int low, int width) {
            cut.y = low;
            cut.width = width;
            measure();
        }

        void dry(int drop) {
            water = Math.max(LEAST_MOISTURE, water - drop);
            int harmless = cut.thickness == THINNEST ? 4 : 3;
            stress += Math.max(0, drop - harmless);
            if (stress > MOST_STRESS) {
                isChecked = true;
            }
        }

        void relax() {
            stress = Math.max(0, stress - 3);
        }

        boolean isAsItsLog() {
            return wood == countWoodIn(cut.y, cut.width) && knots == countKnots() && rot == countRot();
        }
    }

    /** A bin of the sorter; its kind is ten times the thickness plus the grade. */
    private static final class Bin {
        private final ArrayList<Board> content = new ArrayList<Board>();
        private int kind;

        boolean takes(int boardKind) {
            return !content.isEmpty() && content.size() < BIN_ROOM && kind == boardKind;
        }

        void put(Board board, int boardKind) {
            kind = boardKind;
            board.state = 'b';
            content.add(board);
        }
    }

    /** The kiln, its steps, and for how many ticks it dried. */
    private static final class Kiln {
        private final ArrayList<Board> content = new ArrayList<Board>();
        private final int[] drops = new int[STEPS];
        private int time;

        Kiln() {
            for (int step = 0; step < STEPS; step++) {
                drops[step] = 2;
            }
        }

        int changeDrop(int step, int drop) {
            int before = drops[step];
            drops[step] = drop;
            return before;
        }

        void begin() {
            time = 0;
        }

        void dryForTick(Stock stock) {
            if (content.isEmpty()) {
                return;
            }
            int drop = drops[Math.min(STEPS - 1, time / STEP_TICKS)];
            time++;
            if (!stock.hasHeat(HEAT_OF_TICK)) {
                return;
            }
            stock.burn(HEAT_OF_TICK);
            for (int index = 0; index < content.size(); index++) {
                content.get(index).dry(drop);
            }
        }

        /** Lessens the stress of the boards and answers the greatest that is left. */
        int relax() {
            int greatest = 0;
            for (int index = 0; index < content.size(); index++) {
                Board board = content.get(index);
                board.relax();
                greatest = Math.max(greatest, board.stress);
            }
            return greatest;
        }
    }

    /** What is left of the logs beside the boards. */
    private static final class Stock {
        private int chips;
        private int dust;
        private int burnt;

        boolean hasHeat(int cells) {
            return dust + chips >= cells;
        }

        void burn(int cells) {
            int ofDust = Math.min(dust, cells);
            dust -= ofDust;
            chips -= cells - ofDust;
            burnt += cells;
        }
    }

    /** An order, and whether it was delivered. */
    private static final class Order {
        private final int thickness;
        private final int worst;
        private final int length;
        private final int tolerance;
        private final int price;
        private final boolean isCertified;
        private boolean isDelivered;

        Order(int thickness, int worst, int length, int tolerance, int price, boolean isCertified) {
            this.thickness = thickness;
            this.worst = worst;
            this.length = length;
            this.tolerance = tolerance;
            this.price = price;
            this.isCertified = isCertified;
        }

        ArrayList<Board> pickFrom(ArrayList<Board> offered, Rules rules) {
            ArrayList<Board> taken = new ArrayList<Board>();
            int sum = 0;
            for (int index = 0; index < offered.size(); index++) {
                Board board = offered.get(index);
                if (sum + board.cut.length <= length + tolerance && suits(board, rules)) {
                    sum += board.cut.length;
                    taken.add(board);
                }
            }
            return taken;
        }

        private boolean suits(Board board, Rules rules) {
            return board.cut.thickness == thickness && board.water <= DRY_ENOUGH
                    && board.gradeBy(rules) <= worst;
        }
    }

    /** The rules of the grades 0 to 2, and the prices for them. */
    private static final class Rules {
        private final int[] wanes = {0, 10, 30};
        private final int[] knots = {2, 6, 20};
        private final boolean[] allowsRot = {false, false, true};
        private final boolean[] allowsStain = {false, true, true};
        private final int[] pricesOfTwo = {10, 5, 2};
        private final int[] pricesOfThree = {12, 6, 3};

        int changeRule(int grade, int wane, int mostKnots, boolean isRot, boolean isStain) {
            int before = wanes[grade];
            wanes[grade] = wane;
            knots[grade] = mostKnots;
            allowsRot[grade] = isRot;
            allowsStain[grade] = isStain;
            return before;
        }

        int changePrice(int thickness, int grade, int price) {
            int[] prices = pricesOf(thickness);
            int before = prices[grade];
            prices[grade] = price;
            return before;
        }

        private int[] pricesOf(int thickness) {
            return thickness == THINNEST ? pricesOfTwo : pricesOfThree;
        }

        int priceFor(int thickness, int grade) {
            return grade == REFUSED ? 0 : pricesOf(thickness)[grade];
        }

        int highestPrice(int thickness) {
            int[] prices = pricesOf(thickness);
            return Math.max(prices[0], Math.max(prices[1], prices[2]));
        }

        int gradeFor(int volume, int wane, int mostKnots, boolean isRot, boolean isStain) {
            for (int grade = 0; grade < REFUSED; grade++) {
                if (100 * wane <= wanes[grade] * volume && mostKnots <= knots[grade]
                        && (allowsRot[grade] || !isRot) && (allowsStain[grade] || !isStain)) {
                    return grade;
                }
            }
            return REFUSED;
        }
    }

    /** Searches the best cutting of a log by what is seen of it, and keeps it till something changes. */
    private static final class Planner {
        private final long[] looks = new long[SLICES * SIDE * SIDE];
        private final long[] rowsBelow = new long[SLICES * (SIDE + 1)];
        private final long[] inSlice = new long[SLICES];
        private final Cut[] bestCuts = new Cut[2 * SIDE];
        private final int[] bestWorths = new int[2 * SIDE];
        private final int[] worthFrom = new int[SIDE + THICKEST + 1];
        private final int[] chosen = new int[SIDE];
        private final ArrayList<Cut> plan = new ArrayList<Cut>();
        private int plannedLog = -1;

        Planner() {
            for (int index = 0; index < bestCuts.length; index++) {
                bestCuts[index] = new Cut();
            }
        }

        void forget() {
            plannedLog = -1;
        }

        ArrayList<Cut> cuts() {
            return plan;
        }

        int worth() {
            return worthFrom[0];
        }

        void prepare(int number, Log log, Rules rules) {
            if (plannedLog == number) {
                return;
            }
            look(log);
            for (int thickness = THINNEST; thickness <= THICKEST; thickness++) {
                for (int x = 0; x + thickness <= SIDE; x++) {
                    findBest(x, thickness, rules, log.isStained());
                }
            }
            choose();
            collect();
            plannedLog = number;
        }

        private void look(Log log) {
            int index = 0;
            for (int slice = 0; slice < SLICES; slice++) {
                for (int x = 0; x < SIDE; x++) {
                    for (int y = 0; y < SIDE; y++) {
                        looks[index] = log.looksAt(log.slices[slice], x, y);
                        index++;
                    }
                }
            }
        }

        private static int indexOf(int x, int thickness) {
            return (thickness - THINNEST) * SIDE + x;
        }

        private void findBest(int x, int thickness, Rules rules, boolean isStained) {
            sumColumns(x, thickness);
            int index = indexOf(x, thickness);
            Cut cut = bestCuts[index];
            cut.x = x;
            cut.thickness = thickness;
            bestWorths[index] = 0;
            int highest = thickness * SLICES * rules.highestPrice(thickness);
            for (int y = 0; y + LEAST_WIDTH <= SIDE; y++) {
                for (int width = LEAST_WIDTH; y + width <= SIDE; width++) {
                    // Rows that can't be worth more than the best so far need no search.
                    if (width * highest > bestWorths[index]) {
                        sumRows(y, width);
                        tryLengths(index, y, width, rules, isStained);
                    }
                }
            }
        }

        private void sumColumns(int x, int thickness) {
            for (int slice = 0; slice < SLICES; slice++) {
                long sum = 0;
                for (int y = 0; y < SIDE; y++) {
                    for (int column = x; column < x + thickness; column++) {
                        sum += looks[(slice * SIDE + column) * SIDE + y];
                    }
                    rowsBelow[slice * (SIDE + 1) + y + 1] = sum;
                }
            }
        }

        private void sumRows(int y, int width) {
            for (int slice = 0; slice < SLICES; slice++) {
                int from = slice * (SIDE + 1) + y;
                inSlice[slice] = rowsBelow[from + width] - rowsBelow[from];
            }
        }

        private void tryLengths(int index, int y, int width, Rules rules, boolean isStained) {
            Cut cut = bestCuts[index];
            for (int start = 0; start + LEAST_LENGTH <= SLICES; start++) {
                int wane = 0;
                int knots = 0;
                boolean isRot = false;
                for (int slice = start; slice < SLICES && inSlice[slice] < METAL; slice++) {
                    wane += bareIn(inSlice[slice]);
                    knots = Math.max(knots, knotsIn(inSlice[slice]));
                    isRot = isRot || rotIn(inSlice[slice]) > 0;
                    int length = slice - start + 1;
                    int volume = cut.thickness * width * length;
                    int grade = rules.gradeFor(volume, wane, knots, isRot, isStained);
                    int worth = volume * rules.priceFor(cut.thickness, grade);
                    if (length >= LEAST_LENGTH && worth > bestWorths[index]) {
                        bestWorths[index] = worth;
                        cut.y = y;
                        cut.width = width;
                        cut.start = start;
                        cut.length = length;
                    }
                }
            }
        }

        /** Chooses, for each column, what the best cutting from it on begins with: a thickness, or 0 for none. */
        private void choose() {
            for (int x = SIDE - 1; x >= 0; x--) {
                chosen[x] = 0;
                worthFrom[x] = worthFrom[x + 1];
                for (int thickness = THINNEST; thickness <= THICKEST && x + thickness <= SIDE; thickness++) {
                    int worth = bestWorths[indexOf(x, thickness)];
                    int sum = worth + worthFrom[x + thickness + 1];
                    if (worth > 0 && sum > worthFrom[x]) {
                        chosen[x] = thickness;
                        worthFrom[x] = sum;
                    }
                }
            }
        }

        private void collect() {
            plan.clear();
            int x = 0;
            while (x < SIDE) {
                if (chosen[x] > 0) {
                    plan.add(bestCuts[indexOf(x, chosen[x])]);
                    x += chosen[x];
                }
                x++;
            }
        }
    }
}
