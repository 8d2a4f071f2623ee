import java.util.ArrayList;
import java.util.Arrays;
import java.util.HashMap;
import java.util.List;
import java.util.Map;
import java.util.NoSuchElementException;

/**
 * The mill once more, straight from the document and as slowly as it likes: every cell of wood has a fate of its own,
 * nothing is kept that can be reckoned. RandomRunsTest compares Kerfhall with it.
 */
final class PlainMill {
    static final int IN_LOG = -1;
    static final int CHIPS = -2;
    static final int DUST = -3;

    static final class Wood {
        int butt;
        int top;
        boolean certified;
        int[][] sweep = new int[6][2];
        List<int[]> knots = new ArrayList<>();
        List<int[]> rots = new ArrayList<>();
        List<int[]> metals = new ArrayList<>();
        String scans = "";
        int age;
        boolean sawn;
        int[][][] fate = new int[6][16][16];

        int sum(int x, int y, int dx, int dy) {
            int a = 2 * (x - 8 - dx) + 1;
            int b = 2 * (y - 8 - dy) + 1;
            return a * a + b * b;
        }

        int diameter(int s) {
            return butt - ((butt - top) * s) / 5;
        }

        boolean wood(int s, int x, int y) {
            return sum(x, y, sweep[s][0], sweep[s][1]) <= diameter(s) * diameter(s);
        }

        boolean knot(int s, int x, int y) {
            for (int[] k : knots) {
                if (k[0] == s && x >= k[1] && x < k[1] + k[3] && y >= k[2] && y < k[2] + k[3]) {
                    return wood(s, x, y);
                }
            }
            return false;
        }

        boolean rot(int s, int x, int y) {
            for (int[] r : rots) {
                if (r[0] == s && sum(x, y, sweep[s][0], sweep[s][1]) <= (2 * r[1]) * (2 * r[1])) {
                    return wood(s, x, y);
                }
            }
            return false;
        }

        boolean metal(int s, int x, int y) {
            for (int[] m : metals) {
                if (m[0] == s && m[1] == x && m[2] == y) {
                    return wood(s, x, y);
                }
            }
            return false;
        }

        boolean has(char scan) {
            return scans.indexOf(scan) >= 0;
        }

        boolean woodSeen(int s, int x, int y) {
            return has('l') ? wood(s, x, y) : sum(x, y, 0, 0) <= diameter(s) * diameter(s);
        }

        boolean planable() {
            return (has('s') || has('l')) && !sawn;
        }

        boolean stained() {
            return age > 10;
        }
    }

    static final class Plank {
        int log;
        int[] part = new int[6];
        char state = 'q';
        int moisture = 60;
        int stress;
        boolean checks;
        int sold;
    }

    static final class Deal {
        int thickness;
        int worst;
        int length;
        int tolerance;
        int price;
        boolean certified;
        boolean delivered;
    }

    private final List<Wood> logs = new ArrayList<>();
    private final List<Plank> planks = new ArrayList<>();
    private final List<Deal> deals = new ArrayList<>();
    private final List<Integer> queue = new ArrayList<>();
    private final List<List<Integer>> bins = new ArrayList<>();
    private final int[] binClass = new int[4];
    private List<Integer> kiln = new ArrayList<>();
    private final List<Integer> yard = new ArrayList<>();
    private final int[][] rules = {{0, 2, 0, 0}, {10, 6, 0, 1}, {30, 20, 1, 1}};
    private final int[][] prices = {{10, 5, 2}, {12, 6, 3}};
    private final int[] drops = {2, 2, 2, 2};
    private int kilnTime;
    private int wear;
    private int stop;
    private int balance;
    private long money;
    private int burntDust;
    private int burntChips;
    private boolean warm;
    private boolean sprinkled;

    PlainMill() {
        for (int i = 0; i < 4; i++) {
            bins.add(new ArrayList<>());
        }
    }

    int logs() {
        return logs.size();
    }

    /** The first log from one on that is not sawn, or this one if there is none. */
    int logToWorkOn(int from) {
        for (int log = from % Math.max(1, logs.size()); log < logs.size(); log++) {
            if (!logs.get(log).sawn) {
                return log;
            }
        }
        return from;
    }

    /** The first order from one on that is not delivered, or this one if there is none. */
    int orderToDeliver(int from) {
        for (int order = from % Math.max(1, deals.size()); order < deals.size(); order++) {
            if (!deals.get(order).delivered) {
                return order;
            }
        }
        return from;
    }

    private Wood log(int n) {
        if (n < 0 || n >= logs.size()) {
            throw new IndexOutOfBoundsException();
        }
        return logs.get(n);
    }

    private Wood log(int n, int slice) {
        Wood l = log(n);
        if (slice < 0 || slice > 5) {
            throw new IndexOutOfBoundsException();
        }
        return l;
    }

    private Plank plank(int n) {
        if (n < 0 || n >= planks.size()) {
            throw new IndexOutOfBoundsException();
        }
        return planks.get(n);
    }

    private static void bad(boolean isBad) {
        if (isBad) {
            throw new IllegalArgumentException();
        }
    }

    private static void unsupported(boolean isSo) {
        if (isSo) {
            throw new UnsupportedOperationException();
        }
    }

    private static void state(boolean isSo) {
        if (isSo) {
            throw new IllegalStateException();
        }
    }

    public int addLog(int butt, int top, boolean isCertified) {
        bad(butt < 4 || butt > 16 || top < 4 || top > butt);
        state(logs.size() == 10);
        Wood l = new Wood();
        l.butt = butt;
        l.top = top;
        l.certified = isCertified;
        for (int[][] slice : l.fate) {
            for (int[] column : slice) {
                Arrays.fill(column, IN_LOG);
            }
        }
        logs.add(l);
        return logs.size() - 1;
    }

    interface Cell {
        boolean is(int s, int x, int y);
    }

    private static int count(Cell cell, int fromSlice, int toSlice) {
        int n = 0;
        for (int s = fromSlice; s <= toSlice; s++) {
            for (int x = 0; x < 16; x++) {
                for (int y = 0; y < 16; y++) {
                    n += cell.is(s, x, y) ? 1 : 0;
                }
            }
        }
        return n;
    }

    public int setSweep(int log, int slice, int dx, int dy) {
        Wood l = log(log, slice);
        bad(dx < -2 || dx > 2 || dy < -2 || dy > 2);
        unsupported(l.sawn);
        l.sweep[slice] = new int[] {dx, dy};
        return count(l::wood, slice, slice);
    }

    public int addKnot(int log, int slice, int x, int y, int size) {
        Wood l = log(log, slice);
        bad(size < 1 || size > 4 || x < 0 || y < 0 || (long) x + size > 16 || (long) y + size > 16);
        unsupported(l.sawn);
        l.knots.add(new int[] {slice, x, y, size});
        return count(l::knot, slice, slice);
    }

    public int addRot(int log, int slice, int radius) {
        Wood l = log(log, slice);
        bad(radius < 1 || radius > 8);
        unsupported(l.sawn);
        l.rots.add(new int[] {slice, radius});
        return count(l::rot, slice, slice);
    }

    public boolean addMetal(int log, int slice, int x, int y) {
        Wood l = log(log, slice);
        bad(x < 0 || x > 15 || y < 0 || y > 15);
        unsupported(l.sawn);
        l.metals.add(new int[] {slice, x, y});
        return l.wood(slice, x, y);
    }

    public boolean scan(int log, char kind) {
        Wood l = log(log);
        bad(kind != 's' && kind != 'l' && kind != 'r' && kind != 'm');
        unsupported(l.sawn);
        boolean isNew = !l.has(kind);
        l.scans += kind;
        return isNew;
    }

    public int volumeOf(int log) {
        return count(log(log)::wood, 0, 5);
    }

    public char seenAt(int log, int slice, int x, int y) {
        Wood l = log(log, slice);
        bad(x < 0 || x > 15 || y < 0 || y > 15);
        unsupported(!l.has('s') && !l.has('l'));
        if (l.has('m') && l.metal(slice, x, y)) {
            return 'm';
        }
        boolean k = l.has('r') && l.knot(slice, x, y);
        boolean r = l.has('r') && l.rot(slice, x, y);
        return k && r ? 'K' : k ? 'k' : r ? 'r' : l.woodSeen(slice, x, y) ? 'w' : '.';
    }

    public int setRule(int grade, int wane, int knots, boolean isRot, boolean isStain) {
        bad(grade < 0 || grade > 2 || wane < 0 || wane > 100 || knots < 0 || knots > 256);
        int before = rules[grade][0];
        rules[grade] = new int[] {wane, knots, isRot ? 1 : 0, isStain ? 1 : 0};
        return before;
    }

    public int setPrice(int thickness, int grade, int price) {
        bad(thickness < 2 || thickness > 3 || grade < 0 || grade > 2 || price < 0 || price > 99);
        int before = prices[thickness - 2][grade];
        prices[thickness - 2][grade] = price;
        return before;
    }

    private int grade(int volume, int wane, int knots, boolean rot, boolean stain) {
        for (int g = 0; g < 3; g++) {
            boolean meets = 100 * wane <= rules[g][0] * volume;
            meets &= knots <= rules[g][1];
            meets &= rules[g][2] == 1 || !rot;
            meets &= rules[g][3] == 1 || !stain;
            if (meets) {
                return g;
            }
        }
        return 3;
    }

    /** What is seen of a log, or {worth, x, t, y, w, s, l} of the best board of some columns of it. */
    private int[] bestBoard(boolean[][][][] seen, boolean stain, int x, int t) {
        int[] best = {0};
        for (int y = 0; y <= 13; y++) {
            for (int w = 3; y + w <= 16; w++) {
                for (int s = 0; s <= 4; s++) {
                    for (int l = 2; s + l <= 6; l++) {
                        int worth = worth(seen, stain, x, t, y, w, s, l);
                        if (worth > best[0]) {
                            best = new int[] {worth, x, t, y, w, s, l};
                        }
                    }
                }
            }
        }
        return best;
    }

    private int worth(boolean[][][][] seen, boolean stain, int x, int t, int y, int w, int s, int l) {
        int wane = 0;
        int knots = 0;
        boolean rot = false;
        for (int i = s; i < s + l; i++) {
            int here = 0;
            for (int j = x; j < x + t; j++) {
                for (int k = y; k < y + w; k++) {
                    if (seen[3][i][j][k]) {
                        return 0;
                    }
                    wane += seen[0][i][j][k] ? 0 : 1;
                    here += seen[1][i][j][k] ? 1 : 0;
                    rot |= seen[2][i][j][k];
                }
            }
            knots = Math.max(knots, here);
        }
        int grade = grade(t * w * l, wane, knots, rot, stain);
        return grade == 3 ? 0 : t * w * l * prices[t - 2][grade];
    }

    private List<int[]> planOf(Wood l) {
        boolean[][][][] seen = new boolean[4][6][16][16];
        for (int s = 0; s < 6; s++) {
            for (int x = 0; x < 16; x++) {
                for (int y = 0; y < 16; y++) {
                    seen[0][s][x][y] = l.woodSeen(s, x, y);
                    seen[1][s][x][y] = l.has('r') && l.knot(s, x, y);
                    seen[2][s][x][y] = l.has('r') && l.rot(s, x, y);
                    seen[3][s][x][y] = l.has('m') && l.metal(s, x, y);
                }
            }
        }
        return cutting(0, seen, l.stained(), new HashMap<>());
    }

    private static int sum(List<int[]> boards) {
        int n = 0;
        for (int[] b : boards) {
            n += b[0];
        }
        return n;
    }

    private List<int[]> cutting(int x, boolean[][][][] seen, boolean stain, Map<Integer, List<int[]>> known) {
        if (x > 15) {
            return new ArrayList<>();
        }
        if (known.containsKey(x)) {
            return known.get(x);
        }
        List<int[]> best = cutting(x + 1, seen, stain, known);
        for (int t = 2; t <= 3; t++) {
            if (x + t <= 16) {
                int[] board = bestBoard(seen, stain, x, t);
                if (board[0] > 0) {
                    List<int[]> all = new ArrayList<>();
                    all.add(board);
                    all.addAll(cutting(x + t + 1, seen, stain, known));
                    if (sum(all) > sum(best)) {
                        best = all;
                    }
                }
            }
        }
        known.put(x, best);
        return best;
    }

    private Wood plannable(int log) {
        Wood l = log(log);
        unsupported(!l.planable());
        return l;
    }

    public int plan(int log) {
        return sum(planOf(plannable(log)));
    }

    public int planned(int log) {
        return planOf(plannable(log)).size();
    }

    private static int letter(char what) {
        int n = "xtywsl".indexOf(what);
        bad(n < 0);
        return n;
    }

    public int plannedAt(int log, int index, char what) {
        log(log);
        int n = letter(what);
        List<int[]> plan = planOf(plannable(log));
        if (index < 0 || index >= plan.size()) {
            throw new NoSuchElementException();
        }
        return plan.get(index)[n + 1];
    }

    public int saw(int log) {
        Wood l = plannable(log);
        state(stop > 0);
        int cut = 0;
        boolean stopped = false;
        for (int[] b : planOf(l)) {
            for (int s = 0; s < 6; s++) {
                for (int x = b[1]; x <= b[1] + b[2] && x < 16; x++) {
                    for (int y = 0; y < 16; y++) {
                        stopped |= l.metal(s, x, y);
                    }
                }
            }
            if (stopped) {
                break;
            }
            Plank p = new Plank();
            p.log = log;
            p.part = Arrays.copyOfRange(b, 1, 7);
            if (wear >= 6 && p.part[2] + p.part[3] - 1 != 15) {
                p.part[2]++;
            }
            planks.add(p);
            queue.add(planks.size() - 1);
            cut++;
            for (int s = 0; s < 6; s++) {
                for (int x = 0; x < 16; x++) {
                    for (int y = 0; y < 16; y++) {
                        if (x == b[1] + b[2]) {
                            l.fate[s][x][y] = DUST;
                        }
                        if (isIn(p, s, x, y)) {
                            l.fate[s][x][y] = planks.size() - 1;
                            balance += l.certified && l.wood(s, x, y) ? 1 : 0;
                        }
                    }
                }
            }
        }
        for (int[][] slice : l.fate) {
            for (int[] column : slice) {
                for (int y = 0; y < 16; y++) {
                    column[y] = column[y] == IN_LOG ? CHIPS : column[y];
                }
            }
        }
        l.sawn = true;
        wear = stopped ? 9 : Math.min(9, wear + 1);
        stop = stopped ? 5 : 0;
        return cut;
    }

    private static boolean isIn(Plank p, int s, int x, int y) {
        int[] q = p.part;
        return x >= q[0] && x < q[0] + q[1] && y >= q[2] && y < q[2] + q[3] && s >= q[4] && s < q[4] + q[5];
    }

    public int wear() {
        return wear;
    }

    public int file() {
        int before = wear;
        wear = 0;
        return before;
    }

    public int stopped() {
        return stop;
    }

    public int boards() {
        return planks.size();
    }

    public int partOf(int board, char what) {
        Plank p = plank(board);
        return p.part[letter(what)];
    }

    /** Cells of a kind that have the board as their fate. */
    private int inPlank(int board, Cell cell, int fromSlice, int toSlice) {
        Wood l = logs.get(planks.get(board).log);
        return count((s, x, y) -> l.fate[s][x][y] == board && cell.is(s, x, y), fromSlice, toSlice);
    }

    public int inBoard(int board, char what) {
        Plank p = plank(board);
        Wood l = logs.get(p.log);
        bad(what != 'v' && what != 'n' && what != 'k' && what != 'r');
        if (what == 'v') {
            return inPlank(board, l::wood, 0, 5);
        }
        if (what == 'n') {
            return inPlank(board, (s, x, y) -> !l.wood(s, x, y), 0, 5);
        }
        if (what == 'r') {
            return inPlank(board, l::rot, 0, 5);
        }
        int most = 0;
        for (int s = 0; s < 6; s++) {
            most = Math.max(most, inPlank(board, l::knot, s, s));
        }
        return most;
    }

    public int gradeOf(int board) {
        Plank p = plank(board);
        int grade = grade(p.part[1] * p.part[3] * p.part[5], inBoard(board, 'n'), inBoard(board, 'k'),
                inBoard(board, 'r') > 0, logs.get(p.log).stained());
        return p.checks && grade < 3 ? grade + 1 : grade;
    }

    public char stateOf(int board) {
        return plank(board).state;
    }

    public int logOf(int board) {
        return plank(board).log;
    }

    public int trim(int board, int first, int length) {
        Plank p = plank(board);
        bad(length < 2 || first < p.part[4] || (long) first + length > p.part[4] + p.part[5]);
        unsupported(p.state == 'k' || p.state == 'd');
        Wood l = logs.get(p.log);
        int n = 0;
        for (int s = 0; s < 6; s++) {
            for (int x = 0; x < 16; x++) {
                for (int y = 0; y < 16; y++) {
                    if (l.fate[s][x][y] == board && (s < first || s >= first + length)) {
                        l.fate[s][x][y] = CHIPS;
                        n += l.wood(s, x, y) ? 1 : 0;
                    }
                }
            }
        }
        p.part[4] = first;
        p.part[5] = length;
        return n;
    }

    public int rip(int board, int low, int width) {
        Plank p = plank(board);
        bad(width < 3 || low < p.part[2] || (long) low + width > p.part[2] + p.part[3]);
        unsupported(p.state == 'k' || p.state == 'd');
        Wood l = logs.get(p.log);
        int n = 0;
        for (int s = 0; s < 6; s++) {
            for (int x = 0; x < 16; x++) {
                for (int y = 0; y < 16; y++) {
                    if (l.fate[s][x][y] == board && (y < low || y >= low + width)) {
                        boolean isNext = y == low - 1 || y == low + width;
                        l.fate[s][x][y] = isNext ? DUST : CHIPS;
                        n += isNext && l.wood(s, x, y) ? 1 : 0;
                    }
                }
            }
        }
        p.part[2] = low;
        p.part[3] = width;
        return n;
    }

    public int tick(int ticks) {
        bad(ticks < 1 || ticks > 50);
        int jams = 0;
        for (int i = 0; i < ticks; i++) {
            for (Wood l : logs) {
                l.age += !l.sawn && warm && !sprinkled ? 1 : 0;
            }
            stop = stop > 0 ? stop - 1 : 0;
            jams += sort() ? 0 : 1;
            dry();
        }
        return jams;
    }

    private boolean sort() {
        if (queue.isEmpty()) {
            return true;
        }
        int board = queue.get(0);
        int kind = planks.get(board).part[1] * 10 + gradeOf(board);
        int bin = -1;
        for (int b = 3; b >= 0; b--) {
            bin = bins.get(b).isEmpty() ? b : bin;
        }
        for (int b = 3; b >= 0; b--) {
            boolean fits = !bins.get(b).isEmpty() && bins.get(b).size() < 6 && binClass[b] == kind;
            bin = fits ? b : bin;
        }
        // A bin of the class goes ahead of an empty one, also of a lower one.
        if (bin < 0) {
            return false;
        }
        queue.remove(0);
        planks.get(board).state = 'b';
        bins.get(bin).add(board);
        binClass[bin] = kind;
        return true;
    }

    private boolean use(int cells) {
        if (dust() + chips() < cells) {
            return false;
        }
        for (int i = 0; i < cells; i++) {
            if (dust() > 0) {
                burntDust++;
            } else {
                burntChips++;
            }
        }
        return true;
    }

    private void dry() {
        if (kiln.isEmpty()) {
            return;
        }
        int step = kilnTime < 5 ? 0 : kilnTime < 10 ? 1 : kilnTime < 15 ? 2 : 3;
        kilnTime++;
        if (!use(4)) {
            return;
        }
        for (int board : kiln) {
            Plank p = planks.get(board);
            p.moisture -= drops[step];
            p.moisture = p.moisture < 6 ? 6 : p.moisture;
            int limit = p.part[1] == 2 ? 4 : 3;
            p.stress += drops[step] > limit ? drops[step] - limit : 0;
            p.checks |= p.stress > 5;
        }
    }

    public int queue() {
        return queue.size();
    }

    private List<Integer> bin(int bin) {
        if (bin < 0 || bin > 3) {
            throw new IndexOutOfBoundsException();
        }
        return bins.get(bin);
    }

    public int inBin(int bin) {
        return bin(bin).size();
    }

    public int classOf(int bin) {
        if (bin(bin).isEmpty()) {
            throw new NoSuchElementException();
        }
        return binClass[bin];
    }

    public int setStep(int step, int drop) {
        bad(step < 0 || step > 3 || drop < 1 || drop > 9);
        int before = drops[step];
        drops[step] = drop;
        return before;
    }

    public int charge(int bin) {
        unsupported(bin(bin).isEmpty());
        state(!kiln.isEmpty());
        kiln = new ArrayList<>(bins.get(bin));
        bins.get(bin).clear();
        kilnTime = 0;
        for (int board : kiln) {
            planks.get(board).state = 'k';
        }
        return kiln.size();
    }

    public int condition() {
        unsupported(dust() + chips() < 6);
        state(kiln.isEmpty());
        use(6);
        int most = 0;
        for (int board : kiln) {
            Plank p = planks.get(board);
            p.stress = Math.max(0, p.stress - 3);
            most = Math.max(most, p.stress);
        }
        return most;
    }

    public int empty() {
        state(kiln.isEmpty());
        int n = kiln.size();
        for (int board : kiln) {
            planks.get(board).state = 'y';
            yard.add(board);
        }
        kiln = new ArrayList<>();
        return n;
    }

    public int moisture(int board) {
        return plank(board).moisture;
    }

    public boolean hasChecks(int board) {
        return plank(board).checks;
    }

    public int addOrder(int thickness, int worst, int length, int tolerance, int price, boolean isCertified) {
        bad(thickness < 2 || thickness > 3 || worst < 0 || worst > 3 || length < 1 || length > 200);
        bad(tolerance < 0 || tolerance > 20 || price < 0 || price > 99);
        state(deals.size() == 8);
        Deal d = new Deal();
        d.thickness = thickness;
        d.worst = worst;
        d.length = length;
        d.tolerance = tolerance;
        d.price = price;
        d.certified = isCertified;
        deals.add(d);
        return deals.size() - 1;
    }

    public int deliver(int order) {
        if (order < 0 || order >= deals.size()) {
            throw new IndexOutOfBoundsException();
        }
        Deal d = deals.get(order);
        unsupported(d.delivered);
        int length = 0;
        int wood = 0;
        List<Integer> taken = new ArrayList<>();
        for (int board : yard) {
            Plank p = planks.get(board);
            if (p.part[1] == d.thickness && gradeOf(board) <= d.worst && p.moisture <= 18
                    && length + p.part[5] <= d.length + d.tolerance) {
                length += p.part[5];
                wood += inBoard(board, 'v');
                taken.add(board);
            }
        }
        unsupported(length < d.length - d.tolerance);
        unsupported(d.certified && balance < wood);
        balance -= d.certified ? wood : 0;
        money += (long) length * d.price;
        d.delivered = true;
        for (int board : taken) {
            planks.get(board).sold = gradeOf(board);
            planks.get(board).state = 'd';
        }
        yard.removeAll(taken);
        return length;
    }

    public int soldAs(int board) {
        if (plank(board).state != 'd') {
            throw new NoSuchElementException();
        }
        return planks.get(board).sold;
    }

    public int inYard() {
        return yard.size();
    }

    public int balance() {
        return balance;
    }

    public long money() {
        return money;
    }

    private int withFate(int fate) {
        int n = 0;
        for (Wood l : logs) {
            n += count((s, x, y) -> l.fate[s][x][y] == fate && l.wood(s, x, y), 0, 5);
        }
        return n;
    }

    public int chips() {
        return withFate(CHIPS) - burntChips;
    }

    public int dust() {
        return withFate(DUST) - burntDust;
    }

    public int burnt() {
        return burntDust + burntChips;
    }

    public int setWeather(boolean isWarm, boolean isSprinkled) {
        warm = isWarm;
        sprinkled = isSprinkled;
        int n = 0;
        for (Wood l : logs) {
            n += l.sawn ? 0 : 1;
        }
        return n;
    }

    public float yieldShare() {
        int all = 0;
        int sawn = 0;
        for (int board = 0; board < planks.size(); board++) {
            all += inBoard(board, 'v');
        }
        for (int log = 0; log < logs.size(); log++) {
            sawn += logs.get(log).sawn ? volumeOf(log) : 0;
        }
        if (sawn == 0) {
            throw new NoSuchElementException();
        }
        return (float) all / (float) sawn;
    }

    public double meanMoisture() {
        if (planks.isEmpty()) {
            throw new NoSuchElementException();
        }
        int sum = 0;
        for (Plank p : planks) {
            sum += p.moisture;
        }
        return (double) sum / (double) planks.size();
    }

    public boolean isSound() {
        return true;
    }
}
