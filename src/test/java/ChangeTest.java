import java.math.BigInteger;
import java.util.ArrayList;
import java.util.List;
import java.util.function.Supplier;

/** The boundary cases of the document's section 6, CHANGES and what is UNDONE; and of the whole: count and digest. */
public final class ChangeTest extends Looks {
    public static void main(String[] args) {
        ChangeTest t = new ChangeTest();
        t.noneToUndo();
        t.lastEight();
        t.roundAndRound();
        t.asItWas();
        t.noChanges();
        t.changedBehindUndo();
        t.allIsUndone();
        t.emptyAgain();
        t.knocksStay();
        t.timesBehindUndo();
        t.counts();
        t.countsOfNew();
        t.sound();
        t.digested();
        t.calls512();
        t.end();
    }

    private void noneToUndo() {
        about("undo(): IllegalStateException if there is none");
        Quakebook x = new Quakebook();
        state(x, x::undo, "undo()");
        x.knock();
        state(x, x::undo, "undo() behind knock()");
        x.slip(4);
        is(0, x.undo(), "undo()");
        state(x, x::undo, "undo() again");
        is(3, x.count(8), "count(8)");
    }

    private void lastEight() {
        about("the last 8 CHANGES can be UNDONE");
        for (int many = 0; many <= 12; many++) {
            Quakebook x = new Quakebook();
            for (int k = 1; k <= many; k++) {
                x.slip(k % 10);
                is(Math.min(k, 8), x.count(6), "count(6) behind " + k);
            }
            int undone = Math.min(many, 8);
            for (int k = 1; k <= undone; k++) {
                is(undone - k, x.undo(), "undo() of " + many);
                int at = many - k;
                is(at == 0 ? 3 : at % 10, x.count(8), "count(8) behind " + k + " undone of " + many);
            }
            state(x, x::undo, "undo() of one more of " + many);
        }
    }

    private void roundAndRound() {
        about("the last 8 CHANGES can be UNDONE, however many there were, UNDONE and done again");
        Quakebook x = new Quakebook();
        List<Integer> slips = new ArrayList<>(List.of(3));
        int kept = 0;
        for (int k = 0; k < 100; k++) {
            boolean isUndo = k * k % 7 >= 3 && kept > 0;
            if (isUndo) {
                kept--;
                slips.remove(slips.size() - 1);
                is(kept, x.undo(), "undo()");
            } else {
                kept = Math.min(kept + 1, 8);
                is(slips.get(slips.size() - 1), x.slip(k % 10), "slip(" + k % 10 + ")");
                slips.add(k % 10);
            }
            is(kept, x.count(6), "count(6)");
            is(slips.get(slips.size() - 1), x.count(8), "count(8)");
        }
    }

    private void asItWas() {
        about("CHANGES are the calls that do not tell -9, also if all is as it was");
        Quakebook x = standing(1, 0);
        x.tell(0, 0, 0, 0);
        x.undo();
        x.undo();
        x.station(0);
        Call[] changes = {() -> x.slow(0, 0, 3), () -> x.layer(0, 1, 5), () -> x.wall(0, false),
            () -> x.offset(0, 0), () -> x.slip(3), () -> x.gather(2), () -> x.merge(18, 9999), x::noRules};
        int[] answers = {3, 0, 0, 0, 3, 0, 0, 0};
        for (int k = 0; k < changes.length; k++) {
            is(answers[k], changes[k].go(), "the change " + k);
            is(Math.min(8, k + 2), x.count(6), "count(6) behind the change " + k);
        }
        for (int k = 7; k >= 0; k--) {
            is(k, x.undo(), "undo()");
            is(1, x.count(0), "count(0)");
        }
        state(x, x::undo, "undo() of the station");
    }

    private void noChanges() {
        about("no CHANGES: what tells -9, what throws, undo, knock, and questions");
        Quakebook x = standing(6, 0);
        x.arrive(0, 0, 100, 1);
        x.forget(0);
        is(8, x.count(6), "count(6)");
        Call[] calls = {() -> x.station(0), () -> x.forget(0), () -> x.slow(0, 0, 10), () -> x.drop(0),
            () -> x.gather(1), x::knock, x::isSound, x::digest, () -> x.bestCell(1), () -> x.time(0, 1, 0)};
        for (int k = 0; k < calls.length; k++) {
            answer(calls[k]);
            is(8, x.count(6), "count(6) behind the call " + k);
        }
        is(7, x.undo(), "undo()");
        is(0, x.ofArrival(0, 7), "ofArrival(0, 7)");
        is(6, x.undo(), "undo()");
        is(0, x.count(2), "count(2)");
        is(5, x.undo(), "undo()");
        is(5, x.count(0), "count(0)");
        is(3, x.slow(0, 0, 1), "slow(0, 0, 1)");
        is(6, x.count(6), "count(6)");
    }

    private void changedBehindUndo() {
        about("the last CHANGE that is not UNDONE is");
        Quakebook x = new Quakebook();
        x.slip(1);
        x.slip(2);
        is(1, x.undo(), "undo()");
        is(1, x.slip(5), "slip(5)");
        is(1, x.undo(), "undo()");
        is(1, x.count(8), "count(8)");
        is(0, x.undo(), "undo()");
        is(3, x.count(8), "count(8)");
        state(x, x::undo, "undo() of what was UNDONE");
    }

    private void allIsUndone() {
        about("UNDONE: the ground, STATIONS, ARRIVALS, the SLIP, SHOCKS, what is put, rules");
        for (int k = 0; k < 14; k++) {
            Quakebook x = Books.some();
            Call[] changes = {() -> x.slow(1, 0, 9), () -> x.layer(0, 0, 9), () -> x.wall(1, true),
                () -> x.station(9), () -> x.offset(0, 9), () -> x.slip(0), () -> x.arrive(0, 1, 110, 3),
                () -> x.forget(0), () -> x.gather(2), () -> x.tell(3, 500, 2, 1), () -> x.drop(0),
                () -> x.merge(18, 9999), () -> x.rule(0, 1, 0, 11), x::noRules};
            String before = Books.told(x);
            changes[k].go();
            is(7, x.count(6), "count(6) behind the change " + k);
            is(6, x.undo(), "undo() of the change " + k);
            is(before, Books.told(x), "what is told behind the undone change " + k);
        }
    }

    private void emptyAgain() {
        about("all CHANGES UNDONE, the book is as a new one");
        Quakebook x = Books.some();
        for (int k = 5; k >= 0; k--) {
            is(k, x.undo(), "undo()");
        }
        is(Books.told(new Quakebook()), Books.told(x), "what is told");
        index(x, () -> x.ofArrival(0, 0), "ofArrival(0, 0)");
        index(x, () -> x.offset(0, 0), "offset(0, 0)");
        index(x, () -> x.size(0), "size(0)");
        argument(x, () -> x.bad(1), "bad(1)");
        is(0, x.station(5), "station(5)");
        is(0, x.arrive(0, 0, 50, 1), "arrive(0, 0, 50, 1)");
        is(0, x.tell(5, 50, 0, 0), "tell(5, 50, 0, 0)");
        is(1, x.putTo(0), "putTo(0)");
    }

    private void knocksStay() {
        about("not UNDONE: what is counted by count(7)");
        Quakebook x = new Quakebook();
        is(0, x.count(7), "count(7)");
        is(1, x.knock(), "knock()");
        x.slip(4);
        is(2, x.knock(), "knock()");
        is(0, x.undo(), "undo()");
        is(2, x.count(7), "count(7)");
        is(3, x.knock(), "knock()");
        is(0, x.count(6), "count(6)");
        is(0, new Quakebook().count(7), "count(7) of another");
    }

    private void timesBehindUndo() {
        about("UNDONE: the ground, with all TIMES and WAYS through it");
        Quakebook x = new Quakebook();
        is(6, x.time(0, 1, 0), "time(0, 1, 0)");
        x.wall(1, true);
        is(-1, x.time(0, 1, 0), "time(0, 1, 0) with a wall");
        is("0 12 13 14 2", x.way(0, 2, 0), "way(0, 2, 0) with a wall");
        x.undo();
        is(6, x.time(0, 1, 0), "time(0, 1, 0) behind undo()");
        is("0 1 2", x.way(0, 2, 0), "way(0, 2, 0) behind undo()");
        is(96, x.reach(0, 0, 9999), "reach(0, 0, 9999) behind undo()");
        // All cells asked of, and the first again: each has its own TIMES.
        for (int cell = 0; cell < 96; cell++) {
            int apart = cell / 12 + cell % 12;
            is(10 * apart, x.time(cell, 0, 1), "time(" + cell + ", 0, 1)");
            is(6 * apart, x.time(0, cell, 0), "time(0, " + cell + ", 0)");
        }
    }

    private void counts() {
        about("count(): 0 STATIONS to 9 WALLS");
        Quakebook x = Books.full();
        int[] due = {6, 23, 24, 0, 10, 4, 8, 1, 3, 1};
        for (int what = 0; what < 10; what++) {
            is(due[what], x.count(what), "count(" + what + ")");
        }
        x.drop(0);
        is(Integer.bitCount(x.putTo(-1)), x.count(3), "count(3)");
        is(3, x.count(3), "count(3)");
        for (int what : new int[] {-1, 10, LOW, HIGH}) {
            argument(x, () -> x.count(what), "count(" + what + ")");
        }
    }

    private void countsOfNew() {
        about("Promise 1: a ground without stations");
        Quakebook x = new Quakebook();
        for (int what = 0; what < 10; what++) {
            is(what == 8 ? 3 : 0, x.count(what), "count(" + what + ")");
        }
        is(0, x.putTo(-1), "putTo(-1)");
        is(Books.told(new Quakebook()), Books.told(x), "what is told");
        x.slow(0, 0, 1);
        x.station(0);
        is(3, new Quakebook().ofCell(0, 0), "ofCell(0, 0) of another");
        is(0, new Quakebook().count(0), "count(0) of another");
    }

    private void sound() {
        about("isSound(): of an empty book, of a full one, with walls, with one alone");
        is(true, new Quakebook().isSound(), "isSound() of a new one");
        is(true, standing(1, 95).isSound(), "isSound() of one station");
        is(true, Books.some().isSound(), "isSound() of some");
        Quakebook x = Books.full();
        is(true, x.isSound(), "isSound() of a full one");
        for (int cell = 0; cell < 96; cell += 9) {
            x.wall(cell, true);
            is(true, x.isSound(), "isSound() with a wall in " + cell);
        }
        x.merge(18, 9999);
        is(true, x.isSound(), "isSound() of one shock");
        is(true, GroundTest.twoWays().isSound(), "isSound() of a ground alone");
    }

    private void digested() {
        about("digest(): d starts with 6601, becomes d * 31 + v, and wraps around as a 64-bit integer");
        List<Supplier<Quakebook>> books = List.of(Quakebook::new, Books::some, Books::full, GroundTest::twoWays);
        for (int k = 0; k < books.size(); k++) {
            BigInteger d = BigInteger.valueOf(6601);
            for (long v : Books.values(books.get(k))) {
                d = d.multiply(BigInteger.valueOf(31)).add(BigInteger.valueOf(v));
            }
            is(true, d.bitLength() > 64, "it wraps around, which");
            is(d.longValue(), books.get(k).get().digest(), "digest() of the book " + k);
        }
        Quakebook x = Books.full();
        is(x.digest(), x.digest(), "digest() again");
    }

    private void calls512() {
        about("an object is used for at most 512 calls after it has been made");
        Quakebook x = new Quakebook();
        for (int k = 1; k <= 512; k++) {
            is(k, x.knock(), "knock()");
        }
        Quakebook y = new Quakebook();
        int before = 3;
        for (int k = 1; k <= 510; k++) {
            is(before, y.slow(95, 0, 1 + k % 9), "slow");
            before = 1 + k % 9;
        }
        is(7, y.undo(), "undo() as the 511th call");
        is(1 + 509 % 9, y.ofCell(95, 0), "ofCell(95, 0) as the 512th");
    }
}
