import java.lang.reflect.InvocationTargetException;
import java.lang.reflect.Method;
import java.util.ArrayList;
import java.util.Arrays;
import java.util.List;
import java.util.Map;
import java.util.Random;
import java.util.TreeMap;

/** Compares Kerfhall with PlainMill in long runs of calls, always the same ones. */
public final class RandomRunsTest {
    private static final int RUNS = 100;
    private static final int CALLS = 512;
    private static final String[] OF_A_SAWYER = {
        "saw", "saw", "tick", "tick", "tick", "tick", "charge", "charge", "empty", "condition", "trim", "rip", "gradeOf",
        "gradeOf", "inBoard", "inBoard", "partOf", "deliver", "deliver", "deliver", "addOrder", "setStep", "setRule",
        "setWeather", "chips", "dust", "burnt", "balance", "money", "soldAs", "moisture", "hasChecks", "stateOf", "inBin",
        "classOf", "queue", "inYard", "meanMoisture", "yieldShare", "wear", "stopped", "addKnot", "addRot", "addMetal",
    };
    private static final String[] OF_A_PLANNER = {
        "addLog", "addLog", "setSweep", "setSweep", "addKnot", "addKnot", "addRot", "addMetal", "scan", "scan", "scan",
        "scan", "saw", "plan", "plan", "planned", "plannedAt", "plannedAt", "plannedAt", "tick", "tick", "tick", "charge",
        "charge", "empty", "trim", "rip", "seenAt", "seenAt", "gradeOf", "inBoard", "inBoard", "partOf", "deliver",
        "addOrder", "setStep", "setRule", "setPrice", "setWeather", "chips", "dust", "balance", "soldAs", "meanMoisture",
    };
    private final Random random;
    private final boolean isSawyer;
    private final Map<String, Method> calls = new TreeMap<>();
    private final List<String> names;
    private final Map<String, Integer> outcomes;

    private RandomRunsTest(long seed, Map<String, Integer> outcomes) {
        random = new Random(seed);
        isSawyer = seed % 2 == 0;
        this.outcomes = outcomes;
        for (Method method : Kerfhall.class.getDeclaredMethods()) {
            if (java.lang.reflect.Modifier.isPublic(method.getModifiers())) {
                calls.put(method.getName(), method);
            }
        }
        names = new ArrayList<>(calls.keySet());
    }

    /** Mostly a number of the range, sometimes one just outside of it or far away. */
    private int near(int low, int high) {
        if (random.nextInt(40) == 0) {
            int[] odd = {low - 1, high + 1, Integer.MIN_VALUE, Integer.MAX_VALUE};
            return odd[random.nextInt(odd.length)];
        }
        return high < low ? low : low + random.nextInt(high - low + 1);
    }

    private char letter(String letters) {
        return random.nextInt(30) == 0 ? (char) random.nextInt(65536) : letters.charAt(random.nextInt(letters.length()));
    }

    private boolean toss() {
        return random.nextBoolean();
    }

    private Object[] argumentsOf(String name, int logs, PlainMill plain) {
        int log = random.nextInt(10) == 0 ? near(0, logs - 1) : plain.logToWorkOn(random.nextInt(10));
        int board = near(0, plain.boards() - 1);
        int slice = near(0, 5);
        switch (name) {
            case "addLog":
                int butt = near(4, 16);
                return new Object[] {butt, near(4, Math.max(4, Math.min(16, butt))), toss()};
            case "setSweep":
                return new Object[] {log, slice, near(-2, 2), near(-2, 2)};
            case "addKnot":
                int size = near(1, 4);
                int room = Math.max(1, Math.min(16, 16 - size));
                return new Object[] {log, slice, near(0, room), near(0, room), size};
            case "addRot":
                return new Object[] {log, slice, toss() ? near(1, 2) : near(1, 8)};
            case "addMetal":
            case "seenAt":
                return new Object[] {log, slice, near(0, 15), near(0, 15)};
            case "scan":
                return new Object[] {log, letter("slrm")};
            case "volumeOf":
            case "plan":
            case "planned":
            case "saw":
                return new Object[] {log};
            case "setRule":
                return new Object[] {near(0, 2), near(0, toss() ? 40 : 100), near(0, toss() ? 12 : 256), toss(), toss()};
            case "setPrice":
                return new Object[] {near(2, 3), near(0, 2), toss() ? near(0, 20) : near(0, 99)};
            case "plannedAt":
                return new Object[] {log, near(0, 4), letter("xtywsl")};
            case "partOf":
                return new Object[] {board, letter("xtywsl")};
            case "inBoard":
                return new Object[] {board, letter("vnkr")};
            case "trim":
                return new Object[] {board, near(0, 3), near(2, 5)};
            case "rip":
                return new Object[] {board, near(3, 8), near(3, 6)};
            case "tick":
                return new Object[] {isSawyer || toss() ? near(1, 4) : near(1, 50)};
            case "inBin":
            case "classOf":
            case "charge":
                return new Object[] {near(0, 3)};
            case "setStep":
                return new Object[] {near(0, 3), near(isSawyer ? 4 : 1, 9)};
            case "addOrder":
                return new Object[] {near(2, 3), near(0, 3), near(1, isSawyer ? 12 : 200), near(0, 20), near(0, 99), toss()};
            case "deliver":
                return new Object[] {random.nextInt(10) == 0 ? near(0, 7) : plain.orderToDeliver(random.nextInt(8))};
            case "setWeather":
                return new Object[] {toss(), random.nextInt(4) == 0};
            default:
                return calls.get(name).getParameterCount() == 1 ? new Object[] {board} : new Object[0];
        }
    }

    private static Object answer(Object mill, String name, Class<?>[] types, Object[] arguments) {
        try {
            Method method = mill.getClass().getDeclaredMethod(name, types);
            method.setAccessible(true);
            return method.invoke(mill, arguments);
        } catch (InvocationTargetException thrown) {
            return Check.told(thrown.getCause());
        } catch (ReflectiveOperationException broken) {
            return "cannot be called: " + broken;
        }
    }

    private void call(Kerfhall mill, PlainMill plain, String name, Object[] arguments, List<String> story) {
        Class<?>[] types = calls.get(name).getParameterTypes();
        Object want = answer(plain, name, types, arguments);
        Object got = answer(mill, name, types, arguments);
        String told = name + Arrays.toString(arguments);
        story.add(told + " -> " + want);
        String kind = want instanceof String ? (String) want : want.equals(0) ? "0" : "answer";
        outcomes.merge(name + " " + kind, 1, Integer::sum);
        if (!want.equals(got)) {
            System.out.println(story);
        }
        Check.due(told, got, want);
    }

    private void run() {
        Kerfhall mill = new Kerfhall();
        PlainMill plain = new PlainMill();
        List<String> story = new ArrayList<>();
        for (int log = 0; isSawyer && log < 10; log++) {
            int butt = 4 + random.nextInt(13);
            call(mill, plain, "addLog", new Object[] {butt, 4 + random.nextInt(butt - 3), toss()}, story);
            call(mill, plain, "scan", new Object[] {log, "sl".charAt(random.nextInt(2))}, story);
        }
        while (story.size() < CALLS) {
            String name = nextCall(plain.logs(), story.size());
            call(mill, plain, name, argumentsOf(name, plain.logs(), plain), story);
        }
    }

    private String nextCall(int logs, int calls) {
        String[] often = isSawyer ? OF_A_SAWYER : OF_A_PLANNER;
        String name = random.nextInt(5) > 0 ? often[random.nextInt(often.length)] : names.get(random.nextInt(names.size()));
        // A planner gets logs little by little and keeps most, so that there is something left to plan late.
        boolean isTooMuch = name.equals("addLog") && logs > calls / 40 + 1 || name.equals("saw") && random.nextInt(3) > 0;
        boolean isTooSoon = name.equals("saw") && random.nextInt(5) > 0;
        return isSawyer ? isTooSoon ? "tick" : name : isTooMuch ? "scan" : name;
    }

    public static void main(String[] args) {
        Map<String, Integer> outcomes = new TreeMap<>();
        int runs = args.length > 0 ? Integer.parseInt(args[0]) : RUNS;
        for (int seed = 0; seed < runs; seed++) {
            new RandomRunsTest(seed, outcomes).run();
        }
        if (args.length > 0) {
            outcomes.forEach((what, times) -> System.out.println(times + " " + what));
        }
        Check.end("RandomRunsTest");
    }
}
