import java.lang.reflect.InvocationTargetException;
import java.lang.reflect.Method;
import java.util.ArrayList;
import java.util.Arrays;
import java.util.HashMap;
import java.util.List;
import java.util.Map;

/**
 * Long runs of calls, made up from a seed, put to Quakebook and to PlainBook: each answer must be the same,
 * each exception of the same class to the letter.
 */
public final class OracleTest {
    private final Map<String, Method> ours = new HashMap<>();
    private final Map<String, Method> plain = new HashMap<>();
    private final Map<String, Integer> asked = new HashMap<>();
    private final Map<String, Integer> thrown = new HashMap<>();
    private int made;
    private int gathered;
    private long seed;
    private Quakebook x;
    private PlainBook y;
    private final List<String> run = new ArrayList<>();
    private int wrong;

    private OracleTest() {
        for (Method m : Quakebook.class.getDeclaredMethods()) {
            ours.put(m.getName(), m);
        }
        for (Method m : PlainBook.class.getDeclaredMethods()) {
            if (java.lang.reflect.Modifier.isPublic(m.getModifiers())) {
                plain.put(m.getName(), m);
            }
        }
    }

    private int below(int n) {
        seed = seed * 6364136223846793005L + 1442695040888963407L;
        return (int) ((seed >>> 33) % n);
    }

    private boolean oneIn(int n) {
        return below(n) == 0;
    }

    private int between(int a, int b) {
        return a + below(b - a + 1);
    }

    /** Mostly inside; now and then at or just over an edge, or far out. */
    private int arg(int a, int b) {
        if (oneIn(60)) {
            return new int[] {a - 1, b + 1, Integer.MIN_VALUE, Integer.MAX_VALUE}[below(4)];
        }
        if (oneIn(12)) {
            return oneIn(2) ? a : b;
        }
        return b < a ? a : between(a, b);
    }

    private static Object answer(Method m, Object target, Object[] args) {
        try {
            return m.invoke(target, args);
        } catch (InvocationTargetException e) {
            return e.getCause().getClass().getName();
        } catch (IllegalAccessException e) {
            throw new IllegalStateException(e);
        }
    }

    private Object call(String name, Object... args) {
        Object a = answer(ours.get(name), x, args);
        Object b = answer(plain.get(name), y, args);
        String told = name + Arrays.toString(args).replace('[', '(').replace(']', ')');
        run.add(told + " = " + a);
        asked.merge(name, 1, Integer::sum);
        if (b instanceof String && ((String) b).startsWith("java.lang.")) {
            thrown.merge(name, 1, Integer::sum);
        }
        if (!b.equals(a)) {
            wrong++;
            if (wrong <= 5) {
                System.out.println("  FAILED " + told + " answered " + a + ", due is " + b + "; the run:");
                System.out.println("    " + String.join("; ", run));
            }
        }
        return b;
    }

    private int ask(String name, Object... args) {
        Object b = call(name, args);
        return b instanceof Integer ? (Integer) b : 0;
    }

    private int stations() {
        return y.count(0);
    }

    private int arrivals() {
        return y.count(2);
    }

    private int shocks() {
        return y.count(4);
    }

    private int someSet() {
        int set = 0;
        for (int k = 0; k < arrivals(); k++) {
            if (y.ofArrival(k, 7) == 0 && oneIn(3)) {
                set |= 1 << k;
            }
        }
        if (oneIn(20)) {
            return new int[] {0, -1, 1 << 24, 1 << arrivals(), Integer.MIN_VALUE, set | 1 << below(31)}[below(6)];
        }
        return set;
    }

    private int[] source = {0, 0};

    /** An arrival of a shock that there was, more or less. */
    private void hear() {
        if (stations() == 0 || oneIn(40)) {
            call("arrive", arg(0, stations() - 1), arg(0, 1), arg(0, 9999), arg(1, 999));
            return;
        }
        if (oneIn(4)) {
            source = new int[] {below(96), between(0, oneIn(3) ? 9000 : 400)};
        }
        int s = below(stations());
        int wave = below(2);
        int at = stationCells.get(s);
        int time = Math.max(0, y.time(at, source[0], wave));
        int noise = oneIn(2) ? 0 : oneIn(4) ? between(-20, 20) : between(-3, 3);
        int minute = source[1] + time + noise + offsets.get(s);
        call("arrive", s, wave, Math.max(0, Math.min(9999, minute)), arg(1, 999));
    }

    private final List<Integer> stationCells = new ArrayList<>();
    private final List<Integer> offsets = new ArrayList<>();

    /** What the made-up arrivals lean on; an undone station or offset only makes them less likely to fit. */
    private void stand() {
        int c = arg(0, 95);
        if (ask("station", c) >= 0 && c >= 0 && c < 96) {
            stationCells.add(c);
            offsets.add(0);
        }
    }

    private void change() {
        switch (below(20)) {
            case 0:
                call("slow", arg(0, 95), arg(0, 1), arg(1, 9));
                break;
            case 1:
                call("layer", arg(0, 7), arg(0, 1), arg(1, 9));
                break;
            case 2:
            case 3:
                call("wall", arg(0, 95), oneIn(2));
                break;
            case 4:
                stand();
                break;
            case 5:
                int s = arg(0, stations() - 1);
                int m = arg(-99, 99);
                call("offset", s, m);
                if (s >= 0 && s < offsets.size() && Math.abs((long) m) < 100) {
                    offsets.set(s, m);
                }
                break;
            case 6:
                call("slip", arg(0, 9));
                break;
            case 7:
            case 8:
            case 9:
            case 10:
            case 11:
                hear();
                break;
            case 12:
                if (oneIn(3)) {
                    call("forget", arg(0, arrivals() - 1));
                }
                break;
            case 13:
            case 14:
                gathered += Math.max(0, ask("gather", arg(2, oneIn(3) ? 8 : 3)));
                break;
            case 15:
                boolean told = oneIn(2);
                call("tell", oneIn(2) ? source[0] : arg(0, 95), oneIn(2) ? source[1] : arg(0, oneIn(3) ? 9999 : 300),
                        told ? arg(0, 9999) : 0, told ? arg(1, 999) : arg(0, 1));
                break;
            case 16:
                call("drop", arg(0, shocks() - 1));
                break;
            case 17:
                if (oneIn(2)) {
                    call("merge", arg(0, 18), arg(0, oneIn(2) ? 100 : 9999));
                }
                break;
            case 18:
                if (oneIn(8)) {
                    call("noRules");
                } else {
                    call("rule", arg(0, 9999), arg(1, 999), arg(0, 11), arg(0, 11));
                }
                break;
            default:
                for (int k = between(1, oneIn(5) ? 9 : 2); k > 0; k--) {
                    call("undo");
                }
                // The book keeps no list of what was undone; the made-up arrivals start over from what is there.
                stationCells.subList(Math.min(stationCells.size(), stations()), stationCells.size()).clear();
                while (stationCells.size() < stations()) {
                    stationCells.add(0);
                }
                while (offsets.size() < stations()) {
                    offsets.add(0);
                }
                break;
        }
    }

    private void question() {
        switch (below(24)) {
            case 0:
                call("ofCell", arg(0, 95), arg(0, 4));
                break;
            case 1:
                call("time", arg(0, 95), arg(0, 95), arg(0, 1));
                break;
            case 2:
                call("way", arg(0, 95), arg(0, 95), arg(0, 1));
                break;
            case 3:
                call("reach", arg(0, 95), arg(0, 1), arg(0, oneIn(2) ? 60 : 9999));
                break;
            case 4:
                call("isProved", arg(0, 95), arg(0, 95), arg(0, 1));
                break;
            case 5:
                call("ofArrival", arg(0, arrivals() - 1), arg(0, 7));
                break;
            case 6:
                call("bestCell", someSet());
                break;
            case 7:
                call("bestMinute", someSet());
                break;
            case 8:
                call("misfit", someSet());
                break;
            case 9:
                call("possible", someSet());
                break;
            case 10:
                call("bad", someSet());
                break;
            case 11:
                call("putTo", arg(-1, shocks() - 1));
                break;
            case 12:
                call("ofShock", arg(0, shocks() - 1), arg(0, 5));
                break;
            case 13:
                call("size", arg(0, shocks() - 1));
                break;
            case 14:
                call("clusters", arg(0, 18), arg(0, oneIn(2) ? 100 : 9999));
                break;
            case 15:
                call("ofCluster", arg(0, shocks() - 1), arg(0, 18), arg(0, oneIn(2) ? 100 : 9999), arg(0, 5));
                break;
            case 16:
                int from = arg(-9999, 9999);
                call("rate", from, from > 9999 || from < -9999 ? from : arg(from, 9999));
                break;
            case 17:
                int begin = arg(-200, 400);
                call("forecast", begin, begin == Integer.MAX_VALUE ? begin : arg(begin, 500), arg(0, 9999));
                break;
            case 18:
                call("slope", arg(0, oneIn(2) ? 100 : 9999), arg(1, 999));
                break;
            case 19:
                call("alerts");
                call("book");
                break;
            case 20:
                call("count", arg(0, 9));
                break;
            case 21:
                call("ofMade", arg(0, 1), arg(0, 2));
                break;
            case 22:
                call("knock");
                break;
            default:
                call("isSound");
                break;
        }
    }

    private void fits() {
        for (int wave = 0; wave < 2; wave++) {
            String text = String.valueOf(call("made", wave));
            call("left", wave);
            if (!text.equals("-")) {
                made++;
            }
        }
    }

    private void oneRun(long number) {
        seed = number * 7919 + 17;
        x = new Quakebook();
        y = new PlainBook();
        run.clear();
        run.add("seed " + number);
        stationCells.clear();
        offsets.clear();
        boolean rough = oneIn(2);
        for (int k = 0; rough && k < 40; k++) {
            call("slow", below(96), below(2), between(1, 9));
        }
        int walls = oneIn(2) ? 0 : between(5, 45);
        for (int k = 0; k < walls; k++) {
            call("wall", below(96), true);
        }
        for (int k = between(1, 6); k > 0; k--) {
            stand();
        }
        boolean calm = oneIn(3);
        for (int k = 0; run.size() < 440; k++) {
            if (calm ? k < 40 || oneIn(8) : oneIn(2)) {
                if (calm && k < 40) {
                    hear();
                } else {
                    change();
                }
                call("digest");
                if (oneIn(4)) {
                    fits();
                }
            } else {
                question();
            }
        }
        fits();
        call("digest");
    }

    /** Told sizes with great bottoms that share nothing: the sum of them has far more than 64 bits. */
    private void greatSlopes() {
        int[] bottoms = {997, 991, 983, 977, 971, 967, 953, 947, 941, 937};
        x = new Quakebook();
        y = new PlainBook();
        run.clear();
        for (int k = 0; k < 10; k++) {
            call("tell", k, k, 9999 - k, bottoms[k]);
            call("slope", 0, 1);
            call("slope", 1, 929);
            call("slope", 9, 919);
            call("slope", 10, 1);
        }
        call("digest");
    }

    /** As many equations as there can be, through long ways: the greatest numbers that come up. */
    private void greatFits(long number) {
        seed = number * 104729 + 3;
        x = new Quakebook();
        y = new PlainBook();
        run.clear();
        run.add("great fits " + number);
        boolean isSnake = oneIn(2);
        for (int layer = 1; isSnake && layer < 8; layer += 2) {
            for (int column = 0; column < 12; column++) {
                call("wall", 12 * layer + column, column != (layer % 4 == 1 ? 11 : 0));
            }
        }
        int slowest = oneIn(2) ? 9 : 5;
        for (int k = 0; k < 96; k++) {
            call("slow", k, 0, between(slowest - 4, slowest));
        }
        call("slip", 9);
        int[] cells = {0, 84, between(24, 35), between(48, 59), between(72, 83), between(0, 11)};
        for (int cell : cells) {
            call("station", cell);
        }
        for (int shock = 0; shock < 10; shock++) {
            call("tell", oneIn(4) ? cells[shock % 6] : below(48) / 12 * 24 + below(12), 100 + 900 * shock, between(0, 9999),
                    between(1, 999));
        }
        for (int k = 0; k < 24; k++) {
            int shock = below(10);
            int station = below(6);
            int time = y.time(cells[station], y.ofShock(shock, 0), 0);
            call("arrive", station, 0, Math.max(0, Math.min(9999, y.ofShock(shock, 1) + time + between(-9, 9))), 1);
            if (k > 18) {
                fits();
            }
        }
        fits();
        call("isSound");
        call("digest");
        for (int k = 0; k < 10; k++) {
            call("slope", k * 100, between(1, 999));
        }
    }

    public static void main(String[] args) {
        long first = args.length > 0 ? Long.parseLong(args[0]) : 1;
        long last = args.length > 1 ? Long.parseLong(args[1]) : 60;
        OracleTest t = new OracleTest();
        t.greatSlopes();
        for (long k = first; k <= last; k++) {
            t.oneRun(k);
            t.greatFits(k);
        }
        for (String name : t.ours.keySet()) {
            if (java.lang.reflect.Modifier.isPublic(t.ours.get(name).getModifiers()) && !t.asked.containsKey(name)) {
                System.out.println("  FAILED " + name + " was never asked");
                t.wrong++;
            }
        }
        int calls = t.asked.values().stream().mapToInt(Integer::intValue).sum();
        int throwing = t.thrown.values().stream().mapToInt(Integer::intValue).sum();
        System.out.println("OracleTest: " + calls + " calls (" + throwing + " that throw), " + t.gathered
                + " shocks gathered, " + t.made + " grounds made out, " + t.wrong + " wrong");
        if (t.wrong > 0 || t.made == 0 || t.gathered == 0) {
            System.exit(1);
        }
    }
}
