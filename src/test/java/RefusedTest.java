import java.lang.reflect.InvocationTargetException;
import java.lang.reflect.Method;
import java.util.ArrayList;
import java.util.Arrays;
import java.util.HashMap;
import java.util.List;
import java.util.Map;
import java.util.Set;
import java.util.function.Supplier;

/**
 * Every call with every mixture of the last values that are taken, the first that are refused on each side, and values
 * far out, put to a book without anything, to one with some, and to one with all that there can be: which exception
 * comes where several apply, that exceptions go ahead of -9, and that what is refused, or only asked, changes nothing,
 * not even what can be UNDONE.
 */
public final class RefusedTest extends Looks {
    /** So many calls a book that each is used for far less than 512 of them. */
    private static final int CALLS = 40;
    private static final Set<String> CHANGES = Set.of("slow", "layer", "wall", "station", "offset", "slip", "arrive",
            "forget", "gather", "tell", "drop", "merge", "rule", "noRules");

    /** What a call needs of one argument: the least and the most that is taken, and what comes otherwise. */
    private static final class Need {
        final int least;
        final int most;
        final Class<?> otherwise;

        Need(int least, int most, Class<?> otherwise) {
            this.least = least;
            this.most = most;
            this.otherwise = otherwise;
        }

        int[] values() {
            if (least > most) {
                return new int[] {-1, 0, 1, LOW, HIGH};
            }
            return new int[] {least, most, least - 1, most + 1, LOW, HIGH};
        }
    }

    private final Map<String, Method> methods = new HashMap<>();
    private String state = "";
    private Supplier<Quakebook> book = Quakebook::new;
    private Quakebook x;
    private int used;

    private RefusedTest() {
        for (Method m : Quakebook.class.getMethods()) {
            methods.put(m.getName(), m);
        }
    }

    public static void main(String[] args) {
        RefusedTest t = new RefusedTest();
        t.all("a new book", Quakebook::new);
        t.all("a book of some", Books::some);
        t.all("a full book", Books::full);
        t.sets("a book of some", Books::some);
        t.sets("a full book", Books::full);
        t.noBest();
        t.end();
    }

    private static Need number(int many) {
        return new Need(0, many - 1, IndexOutOfBoundsException.class);
    }

    private static Need range(int least, int most) {
        return new Need(least, most, IllegalArgumentException.class);
    }

    private static Need cell() {
        return number(96);
    }

    private static Need wave() {
        return number(2);
    }

    private void all(String name, Supplier<Quakebook> made) {
        state = name;
        book = made;
        Quakebook first = made.get();
        Need station = number(first.count(0));
        Need arrival = number(first.count(2));
        Need shock = number(first.count(4));
        changesOfGround();
        changesOfHeard(station, arrival);
        changesOfShocks(shock);
        questionsOfGround();
        questionsOfShocks(shock);
        mix("ofArrival", arrival, range(0, 7));
        mix("made", wave());
        mix("left", wave());
        mix("ofMade", wave(), range(0, 2));
        mix("count", range(0, 9));
        for (String asked : List.of("knock", "alerts", "book", "isSound", "digest")) {
            mix(asked);
        }
        undone();
    }

    private void changesOfGround() {
        mix("slow", cell(), wave(), range(1, 9));
        mix("layer", number(8), wave(), range(1, 9));
        mix("wall", cell(), range(LOW, HIGH));
    }

    private void changesOfHeard(Need station, Need arrival) {
        mix("station", cell());
        mix("offset", station, range(-99, 99));
        mix("slip", range(0, 9));
        mix("arrive", station, wave(), range(0, 9999), range(1, 999));
        mix("forget", arrival);
    }

    private void changesOfShocks(Need shock) {
        mix("gather", range(2, 8));
        mix("tell", cell(), range(0, 9999), range(0, 9999), range(1, 999));
        mix("drop", shock);
        mix("merge", range(0, 18), range(0, 9999));
        mix("rule", range(0, 9999), range(1, 999), range(0, 11), range(0, 11));
        mix("noRules");
    }

    private void questionsOfGround() {
        mix("ofCell", cell(), range(0, 4));
        mix("time", cell(), cell(), wave());
        mix("way", cell(), cell(), wave());
        mix("reach", cell(), wave(), range(0, 9999));
        mix("isProved", cell(), cell(), wave());
    }

    private void questionsOfShocks(Need shock) {
        mix("putTo", new Need(-1, shock.most, IndexOutOfBoundsException.class));
        mix("ofShock", shock, range(0, 5));
        mix("size", shock);
        mix("clusters", range(0, 18), range(0, 9999));
        mix("ofCluster", shock, range(0, 18), range(0, 9999), range(0, 5));
        mix("rate", range(-9999, 9999), range(-9999, 9999));
        mix("forecast", range(-9999, 9999), range(-9999, 9999), range(0, 9999));
        mix("slope", range(0, 9999), range(1, 999));
    }

    /** All mixtures of the values of each argument. */
    private void mix(String name, Need... needs) {
        about(name + " in " + state);
        List<int[]> mixtures = new ArrayList<>();
        mixtures.add(new int[0]);
        for (Need need : needs) {
            List<int[]> longer = new ArrayList<>();
            for (int[] begun : mixtures) {
                for (int value : need.values()) {
                    int[] more = Arrays.copyOf(begun, begun.length + 1);
                    more[begun.length] = value;
                    longer.add(more);
                }
            }
            mixtures = longer;
        }
        begin();
        for (int[] args : mixtures) {
            Class<?> due = due(name, needs, args);
            if (due == null && CHANGES.contains(name)) {
                change(name, args);
            } else {
                stays(name, args, due);
            }
        }
        close();
    }

    private static Class<?> due(String name, Need[] needs, int[] args) {
        for (Class<?> kind : List.of(IndexOutOfBoundsException.class, IllegalArgumentException.class)) {
            for (int k = 0; k < needs.length; k++) {
                if (needs[k].otherwise == kind && !isTaken(name, needs, args, k)) {
                    return kind;
                }
            }
        }
        return null;
    }

    private static boolean isTaken(String name, Need[] needs, int[] args, int k) {
        if (name.equals("tell") && k == 3 && args[2] == 0) {
            return true;
        }
        boolean isEnd = k == 1 && (name.equals("rate") || name.equals("forecast"));
        return args[k] >= (isEnd ? Math.max(args[0], needs[k].least) : needs[k].least) && args[k] <= needs[k].most;
    }

    private Object call(Quakebook to, String name, int[] args) {
        Method m = methods.get(name);
        Object[] given = new Object[args.length];
        for (int k = 0; k < args.length; k++) {
            given[k] = m.getParameterTypes()[k] == boolean.class ? (Object) (args[k] > 0) : (Object) args[k];
        }
        try {
            return m.invoke(to, given);
        } catch (InvocationTargetException e) {
            return e.getCause().getClass();
        } catch (IllegalAccessException e) {
            throw new IllegalStateException(e);
        }
    }

    private static String words(String name, int[] args) {
        return name + Arrays.toString(args).replace('[', '(').replace(']', ')');
    }

    private void begin() {
        x = book.get();
        used = 0;
    }

    /** A call that must change nothing: one that is refused, or a question. */
    private void stays(String name, int[] args, Class<?> due) {
        if (used == CALLS) {
            close();
            begin();
        }
        used++;
        long before = x.digest();
        Object got = call(x, name, args);
        is(due == null ? "no exception" : due, got instanceof Class || due != null ? got : "no exception",
                words(name, args));
        if (!name.equals("knock")) {
            is(before, x.digest(), "the digest behind " + words(name, args));
        }
    }

    /** Holds all that the book tells, and told at each of its last CHANGES, against one that was not asked. */
    private void close() {
        Quakebook twin = book.get();
        for (int k = x.count(7) - twin.count(7); k > 0; k--) {
            twin.knock();
        }
        is(Books.told(twin), Books.told(x), "what is told behind " + used + " calls");
        for (int k = twin.count(6); k > 0; k--) {
            is(twin.undo(), x.undo(), "undo()");
            is(Books.told(twin), Books.told(x), "what is told with " + (k - 1) + " to UNDO");
        }
    }

    /** A CHANGE that is taken, or can not be done; one that is done comes back by undo. */
    private void change(String name, int[] args) {
        Quakebook y = book.get();
        int kept = y.count(6);
        boolean isFull = name.equals("station") && y.count(0) == 6 || name.equals("arrive") && y.count(2) == 24
                || name.equals("tell") && y.count(4) == 10 || name.equals("rule") && y.count(5) == 4
                || name.equals("forget") && y.ofArrival(args[0], 7) == 1;
        Quakebook twin = book.get();
        Object got = call(y, name, args);
        is(isFull, got.equals(-9), words(name, args) + " can not be done, with the answer " + got + ", which");
        is(false, got instanceof Class, words(name, args) + " with the answer " + got + " throws, which");
        if (!isFull) {
            is(Math.min(8, kept + 1), y.count(6), "count(6) behind " + words(name, args));
            y.undo();
            twin.slip(9);
            twin.undo();
        }
        is(Books.told(twin), Books.told(y), "what is told behind " + words(name, args));
    }

    private void undone() {
        about("undo in " + state);
        Quakebook y = book.get();
        for (int k = y.count(6) - 1; k >= 0; k--) {
            is(k, y.undo(), "undo()");
        }
        state(y, y::undo, "undo() with none");
        state(y, y::undo, "undo() with none again");
        is(0, y.count(6), "count(6)");
    }

    /** For all five that are asked of a set: none, one that is not there, one that is FORGOTTEN. */
    private void sets(String name, Supplier<Quakebook> made) {
        state = name;
        book = made;
        Quakebook first = made.get();
        int there = 0;
        for (int k = 0; k < first.count(2); k++) {
            there |= first.ofArrival(k, 7) == 0 ? 1 << k : 0;
        }
        List<Integer> values = new ArrayList<>(List.of(0, -1, LOW, HIGH, there, there | LOW, -2, LOW | 1));
        for (int k = 0; k < 31; k++) {
            values.add(1 << k);
            values.add(1 << k | Integer.lowestOneBit(there));
        }
        for (String asked : List.of("bestCell", "bestMinute", "misfit", "possible", "bad")) {
            about(asked + " in " + state);
            begin();
            for (int set : values) {
                boolean isTaken = set > 0 && (set & there) == set;
                boolean needsBest = asked.equals("bestMinute") || asked.equals("misfit");
                Class<?> otherwise = needsBest && isTaken && book.get().bestCell(set) == -1
                        ? IllegalStateException.class : null;
                stays(asked, new int[] {set}, isTaken ? otherwise : IllegalArgumentException.class);
            }
            close();
        }
    }

    /** A set without a BEST: what is wrong with the set goes ahead of that. */
    private void noBest() {
        state = "a book with a walled station";
        book = () -> {
            Quakebook y = Books.some();
            y.wall(0, true);
            return y;
        };
        for (String asked : List.of("bestMinute", "misfit")) {
            about(asked + " in " + state);
            begin();
            stays(asked, new int[] {1}, IllegalStateException.class);
            for (int set : new int[] {0, 2, 3, 4, 5, -1, LOW, HIGH}) {
                stays(asked, new int[] {set}, IllegalArgumentException.class);
            }
            close();
        }
        Quakebook y = book.get();
        is(-1, y.bestCell(1), "bestCell(1)");
        is("", y.possible(1), "possible(1)");
        is(1, y.bad(1), "bad(1)");
    }
}
