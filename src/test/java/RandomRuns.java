import java.lang.reflect.InvocationTargetException;
import java.lang.reflect.Method;
import java.util.ArrayList;
import java.util.Arrays;
import java.util.LinkedHashMap;
import java.util.List;
import java.util.Map;
import java.util.Random;

/** The same random calls on the class and on PlainTubes: what they answer and throw must be the same. */
public final class RandomRuns {
    private static final int RUNS = Integer.getInteger("runs", 120);
    private static final int CALLS = 512;
    private static final long SEED = Long.getLong("seed", 20261118L);

    /** The calls with what each argument is, and how often each is made among those that tell and those that ask. */
    private static final Map<String, String> TELLING = new LinkedHashMap<>();
    private static final Map<String, String> ASKING = new LinkedHashMap<>();

    static {
        TELLING.put("piece", "room width0");
        TELLING.put("way", "piece piece long width draught");
        TELLING.put("water", "piece minute21");
        TELLING.put("fire", "piece early end smoke smoke smoke");
        TELLING.put("fan", "way push bears pieces");
        TELLING.put("set", "plan fan early is");
        TELLING.put("eyes", "eyes");
        TELLING.put("group", "piece people early");
        TELLING.put("walk", "walk");
        TELLING.put("door", "piece width cost");
        TELLING.put("make", "door flag");
        TELLING.put("gauges", "pieces mark lag");
        TELLING.put("drill", "minute drilled");
        TELLING.put("reading", "piece minute flag");
        TELLING.put("undo", "");
        TELLING.put("redo", "");
        ASKING.put("air", "plan plan k fireOrNone way minute");
        ASKING.put("smoke", "plan plan k fireOrNone piece minute flag");
        ASKING.put("given", "plan plan k fireOrNone minute what3");
        ASKING.put("lost", "plan plan k fireOrNone fan");
        ASKING.put("shut", "plan plan k fireOrNone piece minute");
        ASKING.put("out", "plan plan k fireOrNone minute");
        ASKING.put("all", "plan plan k fireOrNone");
        ASKING.put("side", "plan plan k fireOrNone minute early");
        ASKING.put("worth", "plan plan k fireOrNone minute row");
        ASKING.put("fewest", "plan minute fires");
        ASKING.put("alike", "plan minute fireOrNone fireOrNone");
        ASKING.put("regret", "plan plan k fireOrNone minute");
        ASKING.put("turn", "plan k minute");
        ASKING.put("turnTo", "plan k minute fire");
        ASKING.put("best", "k minute");
        ASKING.put("reach", "plan plan k fireOrNone piece air");
        ASKING.put("fit", "");
        ASKING.put("dose", "plan plan k fireOrNone piece early");
        ASKING.put("outAt", "plan plan k fireOrNone piece early");
        ASKING.put("whereAt", "plan plan k fireOrNone piece early minute");
        ASKING.put("fits", "plan");
        ASKING.put("next", "plan");
        ASKING.put("row", "row sort many");
        ASKING.put("write", "row place bits");
        ASKING.put("lay", "plan plan k fireOrNone minute row");
        ASKING.put("count", "what12");
    }

    private final Random random;
    private final SmokeTubes tubes = new SmokeTubes();
    private final PlainTubes plain = new PlainTubes();
    private final List<String> log = new ArrayList<>();
    private final int wrongs;
    private final int most;
    private final boolean isHouse;

    private RandomRuns(long seed) {
        random = new Random(seed);
        isHouse = seed % 2 == 0;
        wrongs = isHouse ? 1000 : random.nextInt(3) == 0 ? 6 : 60;
        most = 1 + random.nextInt(8);
    }

    private int number(int low, int high) {
        return low + random.nextInt(high - low + 1);
    }

    private int pick(int... of) {
        return of[random.nextInt(of.length)];
    }

    /** A number from low to high, sometimes one beside them. */
    private long near(int low, int high) {
        if (random.nextInt(wrongs) == 0) {
            return pick(low - 1, high + 1, low, high, Integer.MIN_VALUE, Integer.MAX_VALUE, -1);
        }
        return number(low, high);
    }

    private long least(int low, int high) {
        return random.nextInt(wrongs) == 0 ? near(low, high) : number(low, Math.min(high, low + high / 8));
    }

    private long one(int what) {
        return near(0, Math.max(0, plain.count(what) - 1));
    }

    private Object argument(String kind) {
        switch (kind) {
            case "room": return (int) (random.nextBoolean() ? near(1, 200) : least(1, 200));
            case "width0": return random.nextBoolean() ? 0 : (int) least(0, 40);
            case "width": return (int) (random.nextInt(4) == 0 ? near(1, 40) : least(1, 40));
            case "long": return (int) near(1, 4);
            case "draught": return random.nextBoolean() ? 0 : (int) near(-8, 8);
            case "piece": return (int) one(0);
            case "way": return (int) one(1);
            case "fire": return (int) one(2);
            case "fireOrNone": return random.nextInt(6) == 0 ? -1 : (int) one(2);
            case "fan": return (int) one(3);
            case "door": return (int) one(7);
            case "minute": return (int) (random.nextInt(3) == 0 ? 20 : near(0, 20));
            case "minute21": return (int) near(0, 21);
            case "early": return (int) (random.nextBoolean() ? near(0, 5) : near(0, 20));
            case "end": return (int) (random.nextBoolean() ? 21 : near(1, 21));
            case "smoke": return (int) (random.nextBoolean() ? near(0, 100000) : near(0, 3000));
            case "push": return (int) near(1, 6);
            case "bears": return (int) (random.nextBoolean() ? near(1, 5000) : near(1, 1000000));
            case "pieces": return (int) near(0, (1 << plain.count(0)) - 1);
            case "plan": return (int) near(0, 3);
            case "is": return (int) near(-1, 1);
            case "eyes": return (int) (random.nextInt(4) == 0 ? near(0, 1000000) : near(0, 3000));
            case "people": return (int) near(1, 60);
            case "walk": return (int) (random.nextBoolean() ? 1 : near(1, 3));
            case "cost": return (int) (random.nextBoolean() ? near(1, 3) : near(1, 1000));
            case "flag": return random.nextBoolean();
            case "mark": return (int) (random.nextBoolean() ? near(1, 2000) : near(1, 1000000));
            case "lag": return (int) near(0, 5);
            case "drilled": return (int) (random.nextInt(8) == 0 ? near(0, 600) : near(0, 30));
            case "k": return (int) near(0, 21);
            case "fires": return random.nextInt(wrongs) == 0 ? (int) near(-1, 32) : fires();
            case "what3": return (int) near(0, 3);
            case "what12": return (int) near(0, 12);
            case "air": return (int) (random.nextBoolean() ? near(0, 30) : near(0, 200));
            case "row": return (int) near(0, 3);
            case "sort": return (int) near(0, 3);
            case "many": return (int) (random.nextBoolean() ? near(20, 30) : near(0, 30));
            case "place": return (int) near(0, 20);
            case "bits": return random.nextInt(3) == 0 ? (Long) random.nextLong() : (Long) (random.nextLong() >> 48);
            default: throw new AssertionError(kind);
        }
    }

    private int fires() {
        return random.nextInt(32) & ((1 << plain.count(2)) - 1 | 16);
    }

    private static Method method(Class<?> of, String name) {
        for (Method m : of.getDeclaredMethods()) {
            if (m.getName().equals(name)) {
                m.setAccessible(true);
                return m;
            }
        }
        throw new AssertionError(name);
    }

    private static Object answer(Object of, String name, Object[] arguments) {
        try {
            return method(of.getClass(), name).invoke(of, arguments);
        } catch (InvocationTargetException e) {
            return "throws." + e.getCause().getClass().getSimpleName();
        } catch (IllegalAccessException e) {
            throw new AssertionError(e);
        }
    }

    private boolean call(String name, String kinds) {
        String[] each = kinds.isEmpty() ? new String[0] : kinds.split(" ");
        Object[] arguments = new Object[each.length];
        for (int i = 0; i < each.length; i++) {
            arguments[i] = argument(each[i]);
        }
        return hold(name, arguments);
    }

    private boolean hold(String name, Object... arguments) {
        Object due = answer(plain, name, arguments);
        Object got = answer(tubes, name, arguments);
        String said = Arrays.toString(arguments);
        log.add(name + "(" + said.substring(1, said.length() - 1) + ") = " + got);
        if (due == null ? got == null : due.equals(got)) {
            return true;
        }
        System.out.println(String.join("\n", log));
        System.out.println("due is " + due);
        return false;
    }

    private boolean telling(int calls) {
        List<String> names = new ArrayList<>(TELLING.keySet());
        for (int i = 0; i < calls; i++) {
            String name = names.get(random.nextInt(names.size()));
            if (name.equals("piece") && plain.count(0) >= most || name.equals("undo") && random.nextInt(4) != 0) {
                name = pick(0, 1) == 0 ? "way" : "set";
            }
            if (!call(name, TELLING.get(name))) {
                return false;
            }
        }
        return true;
    }

    private boolean asking(int calls) {
        List<String> names = new ArrayList<>(ASKING.keySet());
        for (int i = 0; i < calls; i++) {
            String name = names.get(random.nextInt(names.size()));
            boolean isDear = name.equals("best") || name.equals("fewest") || name.startsWith("turn");
            if (isDear && random.nextInt(8) != 0) {
                continue;
            }
            if (!call(name, ASKING.get(name))) {
                return false;
            }
        }
        return true;
    }

    private boolean tell(String name, Object... arguments) {
        return hold(name, arguments);
    }

    /** A house in which people can be out with some fires and not with others, so that doors and plans matter. */
    private boolean house() {
        int pieces = number(2, 5);
        boolean right = true;
        for (int p = 0; p < pieces; p++) {
            right &= tell("piece", number(5, 60), p == 0 || random.nextInt(3) == 0 ? number(1, 8) : 0);
        }
        for (int w = 0; w < number(pieces - 1, pieces + 2); w++) {
            int a = w + 1 < pieces ? w + 1 : number(0, pieces - 1);
            int b = w + 1 < pieces ? number(0, w) : (a + number(1, pieces - 1)) % pieces;
            right &= tell("way", a, b, number(1, 3), number(2, 20), random.nextBoolean() ? 0 : number(-7, 7));
        }
        for (int f = 0; f < number(1, 4); f++) {
            int begins = number(0, 4);
            right &= tell("fire", number(0, pieces - 1), begins, number(begins + 1, 21), number(0, 2000),
                number(0, 300), number(500, 5000));
        }
        for (int f = 0; f < number(1, 5); f++) {
            right &= tell("fan", number(0, plain.count(1) - 1), number(2, 6), number(200, 6000), 0);
        }
        for (int i = 0; i < number(4, 16); i++) {
            right &= tell("set", number(0, 3), number(0, plain.count(3) - 1), number(0, 4), pick(-1, 1, 1, -1, 0));
        }
        for (int g = 0; g < number(1, 4); g++) {
            right &= tell("group", number(0, pieces - 1), number(1, 20), number(0, 6));
        }
        for (int d = 0; d < number(0, 6); d++) {
            right &= tell("door", number(0, pieces - 1), number(1, 6), number(1, 4));
        }
        return right && tell("eyes", pick(20, 100, 300, 800)) && tell("walk", pick(1, 1, 2))
            && tell("gauges", number(0, (1 << pieces) - 1), pick(1, 50, 300, 1000), number(0, 3));
    }

    /** Readings that are so with one of the fires or with none, and drills as they would have been. */
    private boolean told() {
        boolean right = true;
        int mark = pick(1, 50, 300, 1000);
        right &= tell("gauges", number(0, (1 << plain.count(0)) - 1), mark, number(0, 3));
        int fire = number(-1, plain.count(2) - 1);
        for (int i = 0; i < number(0, 3); i++) {
            int piece = number(0, plain.count(0) - 1);
            int minute = number(0, 12);
            long smoke = plain.smoke(0, 0, 0, fire, piece, minute, true) + plain.smoke(0, 0, 0, fire, piece, minute, false);
            right &= tell("reading", piece, minute, smoke >= mark);
        }
        for (int i = 0; i < number(0, 2); i++) {
            int by = number(3, 20);
            right &= tell("drill", by, Math.max(0, plain.out(0, 0, 0, -1, by) - number(0, 3)));
        }
        return right;
    }

    private boolean dear() {
        int k = number(0, 6);
        int by = number(6, 20);
        int fire = number(0, plain.count(2) - 1);
        int plan = number(0, 3);
        boolean right = tell("best", k, by) && tell("turn", plan, k, by) && tell("turnTo", plan, k, by, fire)
            && tell("regret", plan, number(0, 3), k, fire, by) && tell("all", plan, number(0, 3), k, fire)
            && tell("fewest", plan, by, fires()) && tell("fits", plan) && tell("next", 0) && tell("fit")
            && tell("alike", plan, k, fire, number(-1, plain.count(2) - 1));
        int piece = number(0, plain.count(0) - 1);
        int other = number(0, 3);
        for (int minute = 0; minute <= 20 && right; minute++) {
            right = tell("whereAt", plan, other, k, fire, piece, k, minute)
                && tell("side", plan, other, k, fire, 20, minute);
        }
        right &= tell("row", 0, number(0, 3), 21) && tell("lay", plan, other, k, fire, by, 0);
        right &= tell("worth", plan, other, k, fire, number(by - 3, by), 0);
        for (int air = 1; air <= 16 && right; air++) {
            right = tell("reach", plan, other, k, fire, piece, air);
        }
        for (int first = 0; first < 4 && right; first++) {
            right = tell("smoke", first, other, k, fire, piece, by, false) && tell("out", first, other, k, fire, by);
        }
        return right;
    }

    private boolean runInAHouse() {
        boolean right = house();
        for (int i = 0; i < 3 && right; i++) {
            right = told() && dear() && telling(3) && asking(10);
            for (int back = number(0, 8); back > 0 && right; back--) {
                right = tell("undo");
            }
        }
        return right;
    }

    private boolean run() {
        if (isHouse) {
            return runInAHouse();
        }
        while (log.size() < CALLS - 100) {
            for (int i = 0; i < 2; i++) {
                if (plain.count(0) < most && !call("piece", TELLING.get("piece"))) {
                    return false;
                }
            }
            if (!telling(random.nextInt(60)) || !asking(random.nextInt(20))) {
                return false;
            }
        }
        return true;
    }

    public static void main(String[] args) {
        long calls = 0;
        for (int run = 0; run < RUNS; run++) {
            RandomRuns one = new RandomRuns(SEED + run);
            if (!one.run()) {
                System.out.println("run with seed " + (SEED + run) + " went wrong");
                System.exit(1);
            }
            calls += one.log.size();
        }
        System.out.println(RUNS + " random runs, " + calls + " calls: all as PlainTubes answers");
    }
}
