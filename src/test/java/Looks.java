/** What the tests share: looks that are counted and told, and calls that must throw and change nothing. */
abstract class Looks {
    interface Call {
        Object go();
    }

    static final int LOW = Integer.MIN_VALUE;
    static final int HIGH = Integer.MAX_VALUE;

    private String about = "";
    private int looked;
    private int wrong;

    final void about(String sentence) {
        about = sentence;
    }

    final void is(Object due, Object got, String what) {
        looked++;
        if (!due.equals(got)) {
            wrong++;
            System.out.println("  FAILED " + about + ": " + what + " answered " + got + ", due is " + due);
        }
    }

    /** What a call answers, or the class of what it throws, to the letter. */
    static Object answer(Call call) {
        try {
            return call.go();
        } catch (RuntimeException e) {
            return e.getClass();
        }
    }

    final void fails(Class<?> due, Quakebook x, Call call, String what) {
        long before = x.digest();
        is(due, answer(call), what);
        is(before, x.digest(), "the digest behind " + what);
    }

    final void index(Quakebook x, Call call, String what) {
        fails(IndexOutOfBoundsException.class, x, call, what);
    }

    final void argument(Quakebook x, Call call, String what) {
        fails(IllegalArgumentException.class, x, call, what);
    }

    final void state(Quakebook x, Call call, String what) {
        fails(IllegalStateException.class, x, call, what);
    }

    /** So many STATIONS in one cell. */
    static Quakebook standing(int many, int cell) {
        Quakebook x = new Quakebook();
        for (int k = 0; k < many; k++) {
            x.station(cell);
        }
        return x;
    }

    /** Tells how it went, and ends with exit code 1 if anything was wrong, or nothing was looked at. */
    final void end() {
        System.out.println(getClass().getName() + ": " + looked + " looks, " + wrong + " wrong");
        if (wrong > 0 || looked == 0) {
            System.exit(1);
        }
    }
}
