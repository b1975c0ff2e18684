import java.math.BigInteger;
import java.util.ArrayDeque;
import java.util.ArrayList;
import java.util.Arrays;
import java.util.Collections;
import java.util.Comparator;
import java.util.Deque;
import java.util.HashMap;
import java.util.List;
import java.util.Map;
import java.util.TreeMap;
import java.util.TreeSet;

/**
 * The document once more, written from its words with the Java library and with no thought of speed,
 * so that OracleTest can hold Quakebook's answers against another program's.
 */
public final class PlainBook {

    static final class Quotient implements Comparable<Quotient> {
        final BigInteger top;
        final BigInteger bottom;

        Quotient(BigInteger t, BigInteger b) {
            BigInteger g = t.gcd(b);
            if (b.signum() < 0) {
                g = g.negate();
            }
            top = t.divide(g);
            bottom = b.divide(g);
        }

        static Quotient of(long t, long b) {
            return new Quotient(BigInteger.valueOf(t), BigInteger.valueOf(b));
        }

        Quotient plus(Quotient o) {
            return new Quotient(top.multiply(o.bottom).add(o.top.multiply(bottom)), bottom.multiply(o.bottom));
        }

        Quotient minus(Quotient o) {
            return plus(new Quotient(o.top.negate(), o.bottom));
        }

        Quotient times(Quotient o) {
            return new Quotient(top.multiply(o.top), bottom.multiply(o.bottom));
        }

        Quotient by(Quotient o) {
            return new Quotient(top.multiply(o.bottom), bottom.multiply(o.top));
        }

        boolean isZero() {
            return top.signum() == 0;
        }

        @Override
        public int compareTo(Quotient o) {
            return top.multiply(o.bottom).compareTo(o.top.multiply(bottom));
        }

        @Override
        public String toString() {
            return bottom.equals(BigInteger.ONE) ? top.toString() : top + "/" + bottom;
        }
    }

    static final class Arrival implements Cloneable {
        int station;
        int wave;
        int minute;
        int strength;
        boolean forgotten;
        Shock shock;
    }

    static final class Shock {
        int cell;
        int minute;
        Quotient told;
    }

    static final class Rule {
        Quotient least;
        int one;
        int other;
    }

    static final class World {
        int[][] slowness = new int[2][96];
        boolean[] walls = new boolean[96];
        List<int[]> stations = new ArrayList<>();
        List<Arrival> arrivals = new ArrayList<>();
        List<Shock> shocks = new ArrayList<>();
        List<Rule> rules = new ArrayList<>();
        int slip = 3;

        World copy() {
            World w = new World();
            w.slowness[0] = slowness[0].clone();
            w.slowness[1] = slowness[1].clone();
            w.walls = walls.clone();
            for (int[] s : stations) {
                w.stations.add(s.clone());
            }
            for (Arrival a : arrivals) {
                Arrival b = new Arrival();
                b.station = a.station;
                b.wave = a.wave;
                b.minute = a.minute;
                b.strength = a.strength;
                b.forgotten = a.forgotten;
                b.shock = a.shock;
                w.arrivals.add(b);
            }
            w.shocks.addAll(shocks);
            w.rules.addAll(rules);
            w.slip = slip;
            return w;
        }
    }

    private World w = new World();
    private final Deque<World> past = new ArrayDeque<>();
    private int knocks;
    private final Map<Integer, int[]> known = new HashMap<>();

    public PlainBook() {
        Arrays.fill(w.slowness[0], 3);
        Arrays.fill(w.slowness[1], 5);
    }

    private static void index(boolean ok) {
        if (!ok) {
            throw new IndexOutOfBoundsException();
        }
    }

    private static void argument(boolean ok) {
        if (!ok) {
            throw new IllegalArgumentException();
        }
    }

    private static boolean cell(int c) {
        return 0 <= c && c <= 95;
    }

    private static boolean wave(int v) {
        return v == 0 || v == 1;
    }

    private static boolean in(int v, int a, int b) {
        return a <= v && v <= b;
    }

    private void changing() {
        past.addLast(w.copy());
        if (past.size() > 8) {
            past.removeFirst();
        }
    }

    private void changed() {
        known.clear();
        for (Arrival a : w.arrivals) {
            if (a.shock != null && (!w.shocks.contains(a.shock) || !fits(a, a.shock))) {
                a.shock = null;
            }
        }
        for (Arrival a : w.arrivals) {
            if (isLeft(a)) {
                for (Shock s : w.shocks) {
                    if (fits(a, s) && !taken(a, s)) {
                        a.shock = s;
                        break;
                    }
                }
            }
        }
    }

    private boolean isLeft(Arrival a) {
        return !a.forgotten && a.shock == null;
    }

    private boolean taken(Arrival a, Shock s) {
        return w.arrivals.stream().anyMatch(
                b -> b != a && b.shock == s && b.station == a.station && b.wave == a.wave);
    }

    private boolean fits(Arrival a, Shock s) {
        Integer m = misfitAt(a, s.cell, s.minute);
        return m != null && m <= w.slip;
    }

    private int hour(Arrival a) {
        return a.minute - w.stations.get(a.station)[1];
    }

    private Integer misfitAt(Arrival a, int c, int minute) {
        int t = plainTime(w.stations.get(a.station)[0], c, a.wave);
        return t < 0 ? null : Integer.valueOf(Math.abs(hour(a) - (minute + t)));
    }

    private static List<Integer> around(int c) {
        List<Integer> l = new ArrayList<>();
        for (int d = 0; d < 96; d++) {
            if (Math.abs(c / 12 - d / 12) + Math.abs(c % 12 - d % 12) == 1) {
                l.add(d);
            }
        }
        return l;
    }

    private int stepTime(int a, int b, int wv) {
        return w.slowness[wv][a] + w.slowness[wv][b];
    }

    /** Dijkstra's way, with a scan for the nearest. */
    private int[] timesFrom(int from, int wv) {
        return known.computeIfAbsent(wv * 96 + from, k -> {
            int[] t = new int[96];
            Arrays.fill(t, -1);
            if (w.walls[from]) {
                return t;
            }
            boolean[] done = new boolean[96];
            t[from] = 0;
            while (true) {
                int c = -1;
                for (int d = 0; d < 96; d++) {
                    if (!done[d] && t[d] >= 0 && (c < 0 || t[d] < t[c])) {
                        c = d;
                    }
                }
                if (c < 0) {
                    return t;
                }
                done[c] = true;
                for (int d : around(c)) {
                    if (!w.walls[d] && (t[d] < 0 || t[c] + stepTime(c, d, wv) < t[d])) {
                        t[d] = t[c] + stepTime(c, d, wv);
                    }
                }
            }
        });
    }

    private int plainTime(int from, int to, int wv) {
        return timesFrom(from, wv)[to];
    }

    private List<Integer> plainWay(int from, int to, int wv) {
        List<Integer> l = new ArrayList<>();
        if (plainTime(from, to, wv) < 0) {
            return l;
        }
        l.add(from);
        int spent = 0;
        while (l.get(l.size() - 1) != to) {
            int c = l.get(l.size() - 1);
            for (int d : around(c)) {
                int rest = plainTime(d, to, wv);
                if (rest >= 0 && spent + stepTime(c, d, wv) + rest == plainTime(from, to, wv)) {
                    l.add(d);
                    spent += stepTime(c, d, wv);
                    break;
                }
            }
        }
        return l;
    }

    private static String spaced(List<?> l) {
        StringBuilder b = new StringBuilder();
        for (Object o : l) {
            b.append(b.length() == 0 ? "" : " ").append(o);
        }
        return b.toString();
    }

    // ---- changes

    public int slow(int c, int wv, int s) {
        index(cell(c) && wave(wv));
        argument(in(s, 1, 9));
        changing();
        int before = w.slowness[wv][c];
        w.slowness[wv][c] = s;
        changed();
        return before;
    }

    public int layer(int l, int wv, int s) {
        index(in(l, 0, 7) && wave(wv));
        argument(in(s, 1, 9));
        changing();
        int others = 0;
        for (int c = 0; c < 96; c++) {
            if (c / 12 == l && w.slowness[wv][c] != s) {
                others++;
                w.slowness[wv][c] = s;
            }
        }
        changed();
        return others;
    }

    public int wall(int c, boolean is) {
        index(cell(c));
        changing();
        boolean before = w.walls[c];
        w.walls[c] = is;
        changed();
        return before ? 1 : 0;
    }

    public int station(int c) {
        index(cell(c));
        if (w.stations.size() == 6) {
            return -9;
        }
        changing();
        w.stations.add(new int[] {c, 0});
        changed();
        return w.stations.size() - 1;
    }

    public int offset(int s, int minutes) {
        index(in(s, 0, w.stations.size() - 1));
        argument(in(minutes, -99, 99));
        changing();
        int before = w.stations.get(s)[1];
        w.stations.get(s)[1] = minutes;
        changed();
        return before;
    }

    public int slip(int s) {
        argument(in(s, 0, 9));
        changing();
        int before = w.slip;
        w.slip = s;
        changed();
        return before;
    }

    public int arrive(int s, int wv, int minute, int strength) {
        index(in(s, 0, w.stations.size() - 1) && wave(wv));
        argument(in(minute, 0, 9999) && in(strength, 1, 999));
        if (w.arrivals.size() == 24) {
            return -9;
        }
        changing();
        Arrival a = new Arrival();
        a.station = s;
        a.wave = wv;
        a.minute = minute;
        a.strength = strength;
        w.arrivals.add(a);
        changed();
        return w.arrivals.size() - 1;
    }

    public int forget(int a) {
        index(in(a, 0, w.arrivals.size() - 1));
        if (w.arrivals.get(a).forgotten) {
            return -9;
        }
        changing();
        w.arrivals.get(a).forgotten = true;
        w.arrivals.get(a).shock = null;
        changed();
        return count(1);
    }

    public int gather(int least) {
        argument(in(least, 2, 8));
        changing();
        known.clear();
        int came = 0;
        while (w.shocks.size() < 10) {
            List<Arrival> best = null;
            int bestSum = 0;
            int bestCell = 0;
            int bestMinute = 0;
            for (int c = 0; c < 96; c++) {
                for (int m : minutesOfUse(c)) {
                    List<Arrival> counted = new ArrayList<>();
                    int sum = 0;
                    Map<Integer, Arrival> kinds = new TreeMap<>();
                    for (Arrival a : w.arrivals) {
                        Integer x = isLeft(a) ? misfitAt(a, c, m) : null;
                        if (x != null && x <= w.slip) {
                            Arrival b = kinds.get(a.station * 2 + a.wave);
                            if (b == null || misfitAt(b, c, m) > x) {
                                kinds.put(a.station * 2 + a.wave, a);
                            }
                        }
                    }
                    for (Arrival a : kinds.values()) {
                        counted.add(a);
                        sum += misfitAt(a, c, m);
                    }
                    if (best == null || counted.size() > best.size()
                            || counted.size() == best.size() && sum < bestSum) {
                        best = counted;
                        bestSum = sum;
                        bestCell = c;
                        bestMinute = m;
                    }
                }
            }
            if (best == null || best.size() < least) {
                break;
            }
            Shock s = new Shock();
            s.cell = bestCell;
            s.minute = bestMinute;
            w.shocks.add(s);
            for (Arrival a : best) {
                a.shock = s;
            }
            came++;
        }
        changed();
        return came;
    }

    /** All minutes, rising, at which any that is left has a misfit within the slip. */
    private TreeSet<Integer> minutesOfUse(int c) {
        TreeSet<Integer> minutes = new TreeSet<>();
        for (Arrival a : w.arrivals) {
            int t = isLeft(a) ? plainTime(w.stations.get(a.station)[0], c, a.wave) : -1;
            for (int d = -w.slip; t >= 0 && d <= w.slip; d++) {
                minutes.add(hour(a) - t + d);
            }
        }
        return minutes;
    }

    public int tell(int c, int minute, int top, int bottom) {
        index(cell(c));
        argument(in(minute, 0, 9999) && in(top, 0, 9999) && (top == 0 || in(bottom, 1, 999)));
        if (w.shocks.size() == 10) {
            return -9;
        }
        changing();
        Shock s = new Shock();
        s.cell = c;
        s.minute = minute;
        s.told = top == 0 ? null : Quotient.of(top, bottom);
        w.shocks.add(s);
        changed();
        return w.shocks.size() - 1;
    }

    public int drop(int s) {
        index(in(s, 0, w.shocks.size() - 1));
        changing();
        w.shocks.remove(s);
        changed();
        return w.shocks.size();
    }

    public int merge(int room, int time) {
        argument(in(room, 0, 18) && in(time, 0, 9999));
        changing();
        List<Shock> stay = new ArrayList<>();
        for (Shock s : w.shocks) {
            if (main(cluster(s, room, time)) == s) {
                stay.add(s);
            }
        }
        int gone = w.shocks.size() - stay.size();
        w.shocks = stay;
        changed();
        return gone;
    }

    public int rule(int top, int bottom, int one, int other) {
        argument(in(top, 0, 9999) && in(bottom, 1, 999) && in(one, 0, 11) && in(other, 0, 11));
        if (w.rules.size() == 4) {
            return -9;
        }
        changing();
        Rule r = new Rule();
        r.least = Quotient.of(top, bottom);
        r.one = one;
        r.other = other;
        w.rules.add(r);
        changed();
        return w.rules.size() - 1;
    }

    public int noRules() {
        changing();
        int many = w.rules.size();
        w.rules.clear();
        changed();
        return many;
    }

    public int undo() {
        if (past.isEmpty()) {
            throw new IllegalStateException();
        }
        w = past.removeLast();
        known.clear();
        return past.size();
    }

    public int knock() {
        return ++knocks;
    }

    // ---- questions

    public int ofCell(int c, int what) {
        index(cell(c));
        argument(in(what, 0, 4));
        if (what < 2) {
            return w.slowness[what][c];
        }
        if (what == 2) {
            return w.walls[c] ? 1 : 0;
        }
        return (int) (what == 3 ? w.stations.stream().filter(s -> s[0] == c).count()
                : w.shocks.stream().filter(s -> s.cell == c).count());
    }

    public int time(int from, int to, int wv) {
        index(cell(from) && cell(to) && wave(wv));
        return plainTime(from, to, wv);
    }

    public String way(int from, int to, int wv) {
        index(cell(from) && cell(to) && wave(wv));
        return spaced(plainWay(from, to, wv));
    }

    public int reach(int from, int wv, int most) {
        index(cell(from) && wave(wv));
        argument(in(most, 0, 9999));
        return (int) Arrays.stream(timesFrom(from, wv)).filter(t -> t >= 0 && t <= most).count();
    }

    /** True by the mathematics of shortest ways, whatever the ground. */
    public boolean isProved(int from, int to, int wv) {
        index(cell(from) && cell(to) && wave(wv));
        return true;
    }

    public int ofArrival(int n, int what) {
        index(in(n, 0, w.arrivals.size() - 1));
        argument(in(what, 0, 7));
        Arrival a = w.arrivals.get(n);
        int[] answers = {a.station, a.wave, a.minute, a.strength, hour(a),
            a.shock == null ? -1 : w.shocks.indexOf(a.shock),
            a.shock == null ? -1 : misfitAt(a, a.shock.cell, a.shock.minute), a.forgotten ? 1 : 0};
        return answers[what];
    }

    private List<Arrival> chosen(int set) {
        argument(set > 0);
        List<Arrival> l = new ArrayList<>();
        for (int k = 0; k < 31; k++) {
            if ((set & 1 << k) != 0) {
                argument(k < w.arrivals.size() && !w.arrivals.get(k).forgotten);
                l.add(w.arrivals.get(k));
            }
        }
        return l;
    }

    /** Sum, cell, minute; null without a BEST. Each minute between the first and the last start is tried. */
    private int[] best(List<Arrival> l) {
        int[] best = null;
        for (int c = 0; c < 96; c++) {
            List<Integer> starts = starts(l, c);
            if (starts == null) {
                continue;
            }
            for (int m = Collections.min(starts); m <= Collections.max(starts); m++) {
                int sum = 0;
                for (int s : starts) {
                    sum += Math.abs(s - m);
                }
                if (best == null || sum < best[0]) {
                    best = new int[] {sum, c, m};
                }
            }
        }
        return best;
    }

    private List<Integer> starts(List<Arrival> l, int c) {
        List<Integer> starts = new ArrayList<>();
        for (Arrival a : l) {
            int t = plainTime(w.stations.get(a.station)[0], c, a.wave);
            if (t < 0) {
                return null;
            }
            starts.add(hour(a) - t);
        }
        return starts;
    }

    public int bestCell(int set) {
        int[] b = best(chosen(set));
        return b == null ? -1 : b[1];
    }

    public int bestMinute(int set) {
        int[] b = best(chosen(set));
        if (b == null) {
            throw new IllegalStateException();
        }
        return b[2];
    }

    public int misfit(int set) {
        int[] b = best(chosen(set));
        if (b == null) {
            throw new IllegalStateException();
        }
        return b[0];
    }

    private List<Integer> possibleCells(List<Arrival> l) {
        List<Integer> cells = new ArrayList<>();
        for (int c = 0; c < 96; c++) {
            List<Integer> starts = starts(l, c);
            if (starts == null) {
                continue;
            }
            boolean any = l.isEmpty();
            for (int m = l.isEmpty() ? 0 : starts.get(0) - 9; !any && m <= starts.get(0) + 9; m++) {
                int minute = m;
                any = starts.stream().allMatch(s -> Math.abs(s - minute) <= w.slip);
            }
            if (any) {
                cells.add(c);
            }
        }
        return cells;
    }

    private boolean none(List<Arrival> l) {
        return !l.isEmpty() && possibleCells(l).isEmpty();
    }

    public String possible(int set) {
        return spaced(possibleCells(chosen(set)));
    }

    public int bad(int set) {
        List<Arrival> l = chosen(set);
        if (!none(l)) {
            return 0;
        }
        for (int k = l.size() - 1; k >= 0; k--) {
            List<Arrival> less = new ArrayList<>(l);
            less.remove(k);
            if (none(less)) {
                l = less;
            }
        }
        return setOf(l);
    }

    private int setOf(List<Arrival> l) {
        int set = 0;
        for (Arrival a : l) {
            set += 1 << w.arrivals.indexOf(a);
        }
        return set;
    }

    public int putTo(int s) {
        index(s == -1 || in(s, 0, w.shocks.size() - 1));
        return setOf(w.arrivals.stream().filter(a -> s == -1 ? isLeft(a) : a.shock == w.shocks.get(s)).toList());
    }

    private List<Arrival> putOf(Shock s) {
        return w.arrivals.stream().filter(a -> a.shock == s).toList();
    }

    public int ofShock(int n, int what) {
        index(in(n, 0, w.shocks.size() - 1));
        argument(in(what, 0, 5));
        Shock s = w.shocks.get(n);
        int sum = 0;
        for (Arrival a : putOf(s)) {
            sum += misfitAt(a, s.cell, s.minute);
        }
        int[] answers = {s.cell, s.minute, s.told == null ? 0 : 1, putOf(s).size(), sum, isAlert(s) ? 1 : 0};
        return answers[what];
    }

    private Quotient sizeOf(Shock s) {
        if (s.told != null) {
            return s.told;
        }
        List<Arrival> put = putOf(s);
        long sum = 0;
        for (Arrival a : put) {
            sum += a.strength * (1L + plainTime(w.stations.get(a.station)[0], s.cell, a.wave));
        }
        return put.isEmpty() ? null : Quotient.of(sum, put.size());
    }

    private boolean isAlert(Shock s) {
        Quotient size = sizeOf(s);
        for (Rule r : w.rules) {
            if (size != null && size.compareTo(r.least) >= 0
                    && in(s.cell % 12, Math.min(r.one, r.other), Math.max(r.one, r.other))) {
                return true;
            }
        }
        return false;
    }

    public String size(int n) {
        index(in(n, 0, w.shocks.size() - 1));
        Quotient size = sizeOf(w.shocks.get(n));
        return size == null ? "-" : size.toString();
    }

    private static boolean linked(Shock a, Shock b, int room, int time) {
        return Math.abs(a.cell / 12 - b.cell / 12) + Math.abs(a.cell % 12 - b.cell % 12) <= room
                && Math.abs(a.minute - b.minute) <= time;
    }

    private List<Shock> cluster(Shock s, int room, int time) {
        List<Shock> found = new ArrayList<>(List.of(s));
        for (int k = 0; k < found.size(); k++) {
            for (Shock t : w.shocks) {
                if (!found.contains(t) && linked(found.get(k), t, room, time)) {
                    found.add(t);
                }
            }
        }
        found.sort(Comparator.comparingInt(t -> w.shocks.indexOf(t)));
        return found;
    }

    private Shock main(List<Shock> cluster) {
        Comparator<Shock> bySize = (a, b) -> {
            Quotient x = sizeOf(a);
            Quotient y = sizeOf(b);
            return x == null ? (y == null ? 0 : -1) : y == null ? 1 : x.compareTo(y);
        };
        List<Shock> sorted = new ArrayList<>(cluster);
        sorted.sort(bySize.reversed().thenComparingInt(s -> s.minute).thenComparingInt(s -> w.shocks.indexOf(s)));
        return sorted.get(0);
    }

    public String clusters(int room, int time) {
        argument(in(room, 0, 18) && in(time, 0, 9999));
        List<String> texts = new ArrayList<>();
        for (Shock s : w.shocks) {
            List<Shock> c = cluster(s, room, time);
            if (c.get(0) == s) {
                texts.add(String.join(",", c.stream().map(t -> "" + w.shocks.indexOf(t)).toList()));
            }
        }
        return spaced(texts);
    }

    public int ofCluster(int n, int room, int time, int what) {
        index(in(n, 0, w.shocks.size() - 1));
        argument(in(room, 0, 18) && in(time, 0, 9999) && in(what, 0, 5));
        List<Shock> c = cluster(w.shocks.get(n), room, time);
        Shock main = main(c);
        switch (what) {
            case 0:
                return c.size();
            case 1:
                return w.shocks.indexOf(main);
            case 2:
                return (int) c.stream().filter(s -> s.minute < main.minute).count();
            case 3:
                return (int) c.stream().filter(s -> s.minute > main.minute).count();
            case 4:
                return c.stream().mapToInt(s -> s.minute).min().getAsInt();
            default:
                return c.stream().mapToInt(s -> s.minute).max().getAsInt();
        }
    }

    private long between(int from, int to) {
        return w.shocks.stream().filter(s -> s.minute >= from && s.minute < to).count();
    }

    public String rate(int from, int to) {
        argument(in(from, -9999, 9999) && in(to, from, 9999));
        return from == to ? "-" : Quotient.of(between(from, to), to - from).toString();
    }

    public String forecast(int from, int to, int span) {
        argument(in(from, -9999, 9999) && in(to, from, 9999) && in(span, 0, 9999));
        return from == to ? "-" : Quotient.of(between(from, to) * span, to - from).toString();
    }

    public String slope(int top, int bottom) {
        argument(in(top, 0, 9999) && in(bottom, 1, 999));
        Quotient least = Quotient.of(top, bottom);
        Quotient sum = Quotient.of(0, 1);
        int many = 0;
        for (Shock s : w.shocks) {
            Quotient size = sizeOf(s);
            if (size != null && size.compareTo(least) >= 0) {
                many++;
                sum = sum.plus(size.minus(least));
            }
        }
        return sum.isZero() ? "-" : Quotient.of(many, 1).by(sum).toString();
    }

    public String alerts() {
        List<Integer> l = new ArrayList<>();
        for (Shock s : w.shocks) {
            if (isAlert(s)) {
                l.add(w.shocks.indexOf(s));
            }
        }
        return spaced(l);
    }

    public String book() {
        List<Shock> l = new ArrayList<>(w.shocks);
        l.sort(Comparator.<Shock>comparingInt(s -> s.minute).thenComparingInt(s -> s.cell)
                .thenComparingInt(s -> w.shocks.indexOf(s)));
        return spaced(l.stream().map(s -> w.shocks.indexOf(s) + "@" + s.cell + ":" + s.minute).toList());
    }

    // ---- the ground made out

    private List<int[]> equations(int wv) {
        List<int[]> rows = new ArrayList<>();
        for (Arrival a : w.arrivals) {
            if (a.wave == wv && a.shock != null) {
                int[] row = new int[9];
                List<Integer> cells = plainWay(a.shock.cell, w.stations.get(a.station)[0], wv);
                for (int k = 0; k + 1 < cells.size(); k++) {
                    row[cells.get(k) / 12]++;
                    row[cells.get(k + 1) / 12]++;
                }
                row[8] = hour(a) - a.shock.minute;
                rows.add(row);
            }
        }
        return rows;
    }

    private List<Integer> layers(List<int[]> rows) {
        List<Integer> l = new ArrayList<>();
        for (int k = 0; k < 8; k++) {
            int layer = k;
            if (rows.stream().anyMatch(r -> r[layer] > 0)) {
                l.add(k);
            }
        }
        return l;
    }

    /** Gauss and Jordan on the normal equations; null if they have not just one solution. */
    private Quotient[] solution(List<int[]> rows, List<Integer> layers) {
        int n = layers.size();
        Quotient[][] m = new Quotient[n][n + 1];
        for (int i = 0; i < n; i++) {
            for (int j = 0; j <= n; j++) {
                long sum = 0;
                for (int[] r : rows) {
                    sum += (long) r[layers.get(i)] * r[j == n ? 8 : layers.get(j)];
                }
                m[i][j] = Quotient.of(sum, 1);
            }
        }
        for (int c = 0; c < n; c++) {
            int p = c;
            while (p < n && m[p][c].isZero()) {
                p++;
            }
            if (p == n) {
                return null;
            }
            Quotient[] swap = m[p];
            m[p] = m[c];
            m[c] = swap;
            for (int i = 0; i < n; i++) {
                if (i != c) {
                    Quotient f = m[i][c].by(m[c][c]);
                    for (int j = 0; j <= n; j++) {
                        m[i][j] = m[i][j].minus(f.times(m[c][j]));
                    }
                }
            }
        }
        Quotient[] x = new Quotient[n];
        for (int i = 0; i < n; i++) {
            x[i] = m[i][n].by(m[i][i]);
        }
        return n == 0 ? null : x;
    }

    public String made(int wv) {
        index(wave(wv));
        List<int[]> rows = equations(wv);
        List<Integer> layers = layers(rows);
        Quotient[] x = solution(rows, layers);
        if (x == null) {
            return "-";
        }
        List<String> texts = new ArrayList<>();
        for (int k = 0; k < 8; k++) {
            texts.add(layers.contains(k) ? x[layers.indexOf(k)].toString() : ".");
        }
        return spaced(texts);
    }

    public String left(int wv) {
        index(wave(wv));
        List<int[]> rows = equations(wv);
        List<Integer> layers = layers(rows);
        Quotient[] x = solution(rows, layers);
        if (x == null) {
            return "-";
        }
        Quotient squares = Quotient.of(0, 1);
        for (int[] r : rows) {
            Quotient rest = Quotient.of(r[8], 1);
            for (int k = 0; k < x.length; k++) {
                rest = rest.minus(x[k].times(Quotient.of(r[layers.get(k)], 1)));
            }
            squares = squares.plus(rest.times(rest));
        }
        return squares.toString();
    }

    public int ofMade(int wv, int what) {
        index(wave(wv));
        argument(in(what, 0, 2));
        List<int[]> rows = equations(wv);
        List<Integer> layers = layers(rows);
        return what == 0 ? rows.size() : what == 1 ? layers.size() : solution(rows, layers) == null ? 0 : 1;
    }

    // ---- the whole

    public int count(int what) {
        argument(in(what, 0, 9));
        int walls = 0;
        for (boolean is : w.walls) {
            walls += is ? 1 : 0;
        }
        int[] answers = {w.stations.size(), (int) w.arrivals.stream().filter(a -> !a.forgotten).count(),
            w.arrivals.size(), (int) w.arrivals.stream().filter(this::isLeft).count(), w.shocks.size(),
            w.rules.size(), past.size(), knocks, w.slip, walls};
        return answers[what];
    }

    /** True as long as TIDYING and the sums of squares are what they are. */
    public boolean isSound() {
        return true;
    }

    public long digest() {
        List<Long> v = new ArrayList<>();
        for (int k = 0; k < 10; k++) {
            v.add((long) count(k));
        }
        for (int c = 0; c < 96; c++) {
            for (int k = 0; k < 5; k++) {
                v.add((long) ofCell(c, k));
            }
        }
        for (int a = 0; a < w.arrivals.size(); a++) {
            for (int k = 0; k < 8; k++) {
                v.add((long) ofArrival(a, k));
            }
        }
        for (int s = 0; s < w.shocks.size(); s++) {
            for (int k = 0; k < 6; k++) {
                v.add((long) ofShock(s, k));
            }
            v.add((long) size(s).length());
        }
        for (String text : List.of(clusters(2, 100), alerts(), book(), made(0), made(1), left(0), left(1))) {
            v.add((long) text.length());
        }
        v.add(isSound() ? 1L : 0L);
        long d = 6601;
        for (long x : v) {
            d = d * 31 + x;
        }
        return d;
    }
}
