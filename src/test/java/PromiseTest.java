import java.util.function.Supplier;

/** Promise by promise: ordinary inputs, the edges that the document names, and wrong inputs. */
public final class PromiseTest extends Looks {
    public static void main(String[] args) {
        PromiseTest t = new PromiseTest();
        t.newObject();
        t.slow();
        t.layer();
        t.wall();
        t.station();
        t.offset();
        t.slip();
        t.arrive();
        t.forget();
        t.gather();
        t.gatherTies();
        t.gatherMinutes();
        t.gatherMany();
        t.gatherLimits();
        t.tell();
        t.drop();
        t.merge();
        t.mergeMains();
        t.rule();
        t.noRules();
        t.undo();
        t.undoAll();
        t.knock();
        t.ofCell();
        t.time();
        t.way();
        t.reach();
        t.isProved();
        t.ofArrival();
        t.best();
        t.bestOfSeveral();
        t.possible();
        t.bad();
        t.putTo();
        t.ofShock();
        t.size();
        t.clusters();
        t.ofCluster();
        t.rate();
        t.forecast();
        t.slope();
        t.alerts();
        t.book();
        t.made();
        t.madeByLayers();
        t.left();
        t.ofMade();
        t.count();
        t.isSound();
        t.digest();
        t.end();
    }

    private void newObject() {
        about("promise 1");
        Quakebook x = new Quakebook();
        for (int what = 0; what < 10; what++) {
            is(what == 8 ? 3 : 0, x.count(what), "count(" + what + ")");
        }
        for (int cell = 0; cell < 96; cell++) {
            is(3, x.ofCell(cell, 0), "ofCell(.., 0)");
            is(5, x.ofCell(cell, 1), "ofCell(.., 1)");
            is(0, x.ofCell(cell, 2), "ofCell(.., 2)");
        }
        is("", x.book(), "book()");
        is("", x.alerts(), "alerts()");
        is("", x.clusters(18, 9999), "clusters(18, 9999)");
        is("-", x.made(0), "made(0)");
        is("-", x.left(1), "left(1)");
        is(0, x.putTo(-1), "putTo(-1)");
        is(true, x.isSound(), "isSound()");
        is(new Quakebook().digest(), x.digest(), "digest()");
        state(x, x::undo, "undo()");
    }

    private void slow() {
        about("promise 2");
        Quakebook x = new Quakebook();
        is(6, x.time(0, 1, 0), "time(0, 1, 0)");
        is(3, x.slow(1, 0, 9), "slow(1, 0, 9)");
        is(9, x.slow(1, 0, 9), "slow(1, 0, 9) again");
        is(2, x.count(6), "count(6)");
        is(12, x.time(0, 1, 0), "time(0, 1, 0)");
        is(10, x.time(0, 1, 1), "time(0, 1, 1)");
        is(5, x.slow(95, 1, 1), "slow(95, 1, 1)");
        is(1, x.ofCell(95, 1), "ofCell(95, 1)");
        is(3, x.ofCell(95, 0), "ofCell(95, 0)");
        index(x, () -> x.slow(-1, 0, 1), "slow(-1, 0, 1)");
        index(x, () -> x.slow(96, 0, 1), "slow(96, 0, 1)");
        index(x, () -> x.slow(HIGH, 0, 0), "slow(HIGH, 0, 0)");
        index(x, () -> x.slow(0, 2, 0), "slow(0, 2, 0)");
        index(x, () -> x.slow(0, -1, 1), "slow(0, -1, 1)");
        argument(x, () -> x.slow(0, 0, 0), "slow(0, 0, 0)");
        argument(x, () -> x.slow(0, 1, 10), "slow(0, 1, 10)");
        argument(x, () -> x.slow(0, 1, LOW), "slow(0, 1, LOW)");
        // It is TIDIED: what FITS no more is taken, what FITS now is put.
        Quakebook y = standing(1, 0);
        y.tell(1, 100, 1, 1);
        y.arrive(0, 0, 106, 1);
        y.slow(1, 0, 7);
        is(0, y.putTo(0), "putTo(0)");
        y.slow(1, 0, 6);
        is(1, y.putTo(0), "putTo(0)");
        is(3, y.ofArrival(0, 6), "ofArrival(0, 6)");
    }

    private void layer() {
        about("promise 3");
        Quakebook x = new Quakebook();
        x.slow(24, 0, 7);
        is(11, x.layer(2, 0, 7), "layer(2, 0, 7)");
        is(0, x.layer(2, 0, 7), "layer(2, 0, 7) again");
        is(3, x.count(6), "count(6)");
        is(7, x.ofCell(35, 0), "ofCell(35, 0)");
        is(3, x.ofCell(36, 0), "ofCell(36, 0)");
        is(3, x.ofCell(23, 0), "ofCell(23, 0)");
        is(5, x.ofCell(24, 1), "ofCell(24, 1)");
        is(12, x.layer(7, 1, 9), "layer(7, 1, 9)");
        is(9, x.ofCell(95, 1), "ofCell(95, 1)");
        is(14, x.time(24, 25, 0), "time(24, 25, 0)");
        index(x, () -> x.layer(8, 0, 0), "layer(8, 0, 0)");
        index(x, () -> x.layer(-1, 0, 1), "layer(-1, 0, 1)");
        index(x, () -> x.layer(0, 2, 10), "layer(0, 2, 10)");
        argument(x, () -> x.layer(0, 0, 10), "layer(0, 0, 10)");
        argument(x, () -> x.layer(0, 0, 0), "layer(0, 0, 0)");
        Quakebook y = standing(1, 0);
        y.tell(1, 100, 1, 1);
        y.arrive(0, 1, 110, 1);
        is(1, y.putTo(0), "putTo(0)");
        y.layer(0, 1, 3);
        is(0, y.putTo(0), "putTo(0)");
        y.layer(0, 1, 4);
        is(1, y.putTo(0), "putTo(0)");
    }

    private void wall() {
        about("promise 4");
        Quakebook x = new Quakebook();
        is(0, x.wall(1, true), "wall(1, true)");
        is(1, x.wall(1, true), "wall(1, true) again");
        is(-1, x.time(1, 1, 0), "time(1, 1, 0)");
        is(-1, x.time(0, 1, 0), "time(0, 1, 0)");
        is(24, x.time(0, 2, 0), "time(0, 2, 0)");
        is(1, x.wall(1, false), "wall(1, false)");
        is(0, x.wall(1, false), "wall(1, false) again");
        is(4, x.count(6), "count(6)");
        is(12, x.time(0, 2, 0), "time(0, 2, 0)");
        index(x, () -> x.wall(96, true), "wall(96, true)");
        index(x, () -> x.wall(-1, false), "wall(-1, false)");
        // A WALL in the way of the one that is put: it is taken, and put again when the way is there again.
        x.station(0);
        x.tell(1, 100, 1, 1);
        x.arrive(0, 0, 106, 1);
        is(1, x.putTo(0), "putTo(0)");
        x.wall(1, true);
        is(0, x.putTo(0), "putTo(0) with a wall");
        x.wall(1, false);
        is(1, x.putTo(0), "putTo(0) without");
    }

    private void station() {
        about("promise 5");
        Quakebook x = new Quakebook();
        int[] cells = {0, 95, 95, 7, 50, 12};
        for (int k = 0; k < 6; k++) {
            is(k, x.station(cells[k]), "station(" + cells[k] + ")");
        }
        is(6, x.count(0), "count(0)");
        is(2, x.ofCell(95, 3), "ofCell(95, 3)");
        is(-9, x.station(3), "station(3)");
        is(6, x.count(6), "count(6)");
        is(6, x.count(0), "count(0)");
        index(x, () -> x.station(96), "station(96)");
        index(x, () -> x.station(-1), "station(-1)");
        index(new Quakebook(), () -> new Quakebook().station(LOW), "station(LOW)");
        Quakebook y = new Quakebook();
        y.wall(5, true);
        is(0, y.station(5), "station(5) in a wall");
        is(0, y.arrive(0, 0, 100, 1), "arrive(0, 0, 100, 1)");
        is(-1, y.bestCell(1), "bestCell(1)");
    }

    private void offset() {
        about("promise 6");
        Quakebook x = standing(2, 0);
        x.arrive(1, 0, 50, 1);
        is(0, x.offset(1, 99), "offset(1, 99)");
        is(-49, x.ofArrival(0, 4), "ofArrival(0, 4)");
        is(99, x.offset(1, -99), "offset(1, -99)");
        is(149, x.ofArrival(0, 4), "ofArrival(0, 4)");
        is(0, x.offset(0, 0), "offset(0, 0)");
        is(6, x.count(6), "count(6)");
        index(x, () -> x.offset(2, 100), "offset(2, 100)");
        index(x, () -> x.offset(-1, 0), "offset(-1, 0)");
        argument(x, () -> x.offset(0, 100), "offset(0, 100)");
        argument(x, () -> x.offset(0, -100), "offset(0, -100)");
    }

    private void slip() {
        about("promise 7");
        Quakebook x = standing(1, 0);
        x.tell(0, 100, 1, 1);
        x.arrive(0, 0, 109, 1);
        is(0, x.putTo(0), "putTo(0)");
        is(3, x.slip(9), "slip(9)");
        is(1, x.putTo(0), "putTo(0)");
        is(9, x.slip(8), "slip(8)");
        is(0, x.putTo(0), "putTo(0)");
        is(8, x.slip(0), "slip(0)");
        is(0, x.slip(0), "slip(0) again");
        is(0, x.count(8), "count(8)");
        is(7, x.count(6), "count(6)");
        argument(x, () -> x.slip(10), "slip(10)");
        argument(x, () -> x.slip(-1), "slip(-1)");
    }

    private void arrive() {
        about("promise 8");
        Quakebook x = standing(2, 0);
        is(0, x.arrive(0, 0, 0, 1), "arrive(0, 0, 0, 1)");
        is(1, x.arrive(1, 1, 9999, 999), "arrive(1, 1, 9999, 999)");
        is(999, x.ofArrival(1, 3), "ofArrival(1, 3)");
        index(x, () -> x.arrive(2, 0, 0, 0), "arrive(2, 0, 0, 0)");
        index(x, () -> x.arrive(-1, 0, 0, 1), "arrive(-1, 0, 0, 1)");
        index(x, () -> x.arrive(0, 2, -1, 1), "arrive(0, 2, -1, 1)");
        argument(x, () -> x.arrive(0, 0, -1, 1), "arrive(0, 0, -1, 1)");
        argument(x, () -> x.arrive(0, 0, 10000, 1), "arrive(0, 0, 10000, 1)");
        argument(x, () -> x.arrive(0, 0, 0, 0), "arrive(0, 0, 0, 0)");
        argument(x, () -> x.arrive(0, 0, 0, 1000), "arrive(0, 0, 0, 1000)");
        for (int k = 2; k < 24; k++) {
            is(k, x.arrive(0, 0, k, 1), "arrive");
        }
        x.forget(5);
        is(-9, x.arrive(0, 0, 1, 1), "arrive for the 25th time");
        is(24, x.count(2), "count(2)");
        is(8, x.count(6), "count(6)");
        index(x, () -> x.arrive(2, 0, 1, 1), "arrive(2, ..) with 24");
        argument(x, () -> x.arrive(0, 0, 1, 0), "arrive(.., 0) with 24");
    }

    private void forget() {
        about("promise 9");
        Quakebook x = standing(1, 0);
        x.arrive(0, 0, 100, 1);
        x.arrive(0, 0, 101, 1);
        x.arrive(0, 0, 300, 1);
        x.tell(0, 100, 1, 1);
        is(1, x.putTo(0), "putTo(0)");
        is(2, x.forget(0), "forget(0)");
        // The second one of its kind has room now.
        is(2, x.putTo(0), "putTo(0)");
        is(4, x.putTo(-1), "putTo(-1)");
        is(-1, x.ofArrival(0, 5), "ofArrival(0, 5)");
        is(-1, x.ofArrival(0, 6), "ofArrival(0, 6)");
        is(1, x.ofArrival(0, 7), "ofArrival(0, 7)");
        is(100, x.ofArrival(0, 4), "ofArrival(0, 4)");
        is(6, x.count(6), "count(6)");
        is(-9, x.forget(0), "forget(0) again");
        is(6, x.count(6), "count(6)");
        is(3, x.count(2), "count(2)");
        is(2, x.count(1), "count(1)");
        is(3, x.arrive(0, 0, 5, 5), "arrive(0, 0, 5, 5)");
        index(x, () -> x.forget(4), "forget(4)");
        index(x, () -> x.forget(-1), "forget(-1)");
    }

    private void gather() {
        about("promise 10");
        Quakebook x = new Quakebook();
        x.station(0);
        x.station(11);
        x.station(84);
        x.arrive(0, 0, 118, 10);
        x.arrive(1, 0, 160, 20);
        x.arrive(2, 0, 148, 30);
        is(0, x.gather(4), "gather(4)");
        is(1, x.gather(3), "gather(3)");
        // TIMES 18, 60 and 48: the three meet nowhere else.
        is("0@14:100", x.book(), "book()");
        is(7, x.putTo(0), "putTo(0)");
        is(0, x.ofShock(0, 2), "ofShock(0, 2)");
        is(8, x.count(6), "count(6)");
        argument(x, () -> x.gather(1), "gather(1)");
        argument(x, () -> x.gather(9), "gather(9)");
        argument(x, () -> x.gather(LOW), "gather(LOW)");
        argument(x, () -> x.gather(HIGH), "gather(HIGH)");
        // (10 * 19 + 20 * 61 + 30 * 49) / 3
        is("960", x.size(0), "size(0)");
        is(0, x.ofShock(0, 4), "ofShock(0, 4)");
        is(true, x.isSound(), "isSound()");
    }

    private void gatherTies() {
        about("promise 10");
        // In each cell the two are 2 apart: the smallest cell, 30 away, and there the smallest minute.
        Quakebook x = standing(2, 5);
        x.arrive(0, 0, 100, 1);
        x.arrive(1, 0, 102, 1);
        is(1, x.gather(2), "gather(2)");
        is("0@0:70", x.book(), "book()");
        // 6 apart, with a slip of 3: just one minute serves; 7 apart: none does.
        Quakebook six = standing(2, 5);
        six.arrive(0, 0, 100, 1);
        six.arrive(1, 0, 106, 1);
        is(1, six.gather(2), "gather(2)");
        is("0@0:73", six.book(), "book()");
        Quakebook seven = standing(2, 5);
        seven.arrive(0, 0, 100, 1);
        seven.arrive(1, 0, 107, 1);
        is(0, seven.gather(2), "gather(2)");
        // Two WAVES from one cell: 3 apart here, but only 1 a STEP further.
        Quakebook waves = standing(1, 0);
        waves.arrive(0, 0, 100, 1);
        waves.arrive(0, 1, 103, 1);
        is(1, waves.gather(2), "gather(2)");
        is("0@1:93", waves.book(), "book()");
        // Of one STATION and WAVE only the nearest counts, the first of these.
        Quakebook kind = standing(4, 5);
        kind.arrive(0, 0, 100, 1);
        kind.arrive(0, 0, 102, 1);
        is(0, kind.gather(2), "gather(2)");
        kind.arrive(1, 0, 101, 1);
        kind.arrive(2, 0, 101, 1);
        kind.arrive(3, 0, 101, 1);
        is(0, kind.gather(5), "gather(5)");
        is(1, kind.gather(4), "gather(4)");
        is("0@0:71", kind.book(), "book()");
        is(29, kind.putTo(0), "putTo(0)");
        is(2, kind.putTo(-1), "putTo(-1)");
    }

    private void gatherMinutes() {
        about("promise 10");
        // 5 apart: two minutes serve, with the same sum; the smallest is the later one less the slip.
        Quakebook x = standing(4, 0);
        x.wall(1, true);
        x.wall(12, true);
        x.arrive(0, 0, 100, 1);
        x.arrive(1, 0, 105, 1);
        is(1, x.gather(2), "gather(2)");
        is("0@0:102", x.book(), "book()");
        // With more of the later ones the greater minute is nearer.
        x.undo();
        x.arrive(2, 0, 105, 1);
        x.arrive(3, 0, 105, 1);
        is(1, x.gather(4), "gather(4)");
        is("0@0:103", x.book(), "book()");
        is(9, x.ofShock(0, 4), "ofShock(0, 4)");
        // Of one STATION and WAVE the nearest one's MISFIT alone is added, though a further one was written first.
        Quakebook y = standing(3, 0);
        y.wall(1, true);
        y.wall(12, true);
        y.arrive(0, 0, 106, 1);
        y.arrive(0, 0, 103, 1);
        y.arrive(1, 0, 103, 1);
        y.arrive(2, 0, 105, 1);
        is(1, y.gather(3), "gather(3)");
        is("0@0:103", y.book(), "book()");
        is(14, y.putTo(0), "putTo(0)");
        is(1, y.putTo(-1), "putTo(-1)");
    }

    private void gatherMany() {
        about("promise 10");
        Quakebook x = standing(6, 0);
        x.wall(1, true);
        x.wall(12, true);
        for (int k = 0; k < 12; k++) {
            x.arrive(k % 6, k / 6, k < 9 ? 500 : 900, 1);
        }
        is(1, x.gather(8), "gather(8)");
        is("0@0:500", x.book(), "book()");
        is(511, x.putTo(0), "putTo(0)");
        is(0, x.gather(4), "gather(4)");
        is(1, x.gather(3), "gather(3)");
        is(7 << 9, x.putTo(1), "putTo(1)");
    }

    private void gatherLimits() {
        about("promise 10");
        Quakebook x = standing(3, 5);
        x.arrive(0, 0, 1000, 1);
        x.arrive(1, 0, 1000, 1);
        x.arrive(0, 1, 3000, 1);
        x.arrive(1, 1, 3000, 1);
        x.arrive(2, 1, 3000, 1);
        is(2, x.gather(2), "gather(2)");
        // The greater one came first.
        is("1@0:970 0@0:2950", x.book(), "book()");
        is(0, x.gather(2), "gather(2) again");
        x.undo();
        x.undo();
        for (int k = 0; k < 9; k++) {
            x.tell(95, k, 0, 0);
        }
        is(1, x.gather(2), "gather(2) with nine");
        is(28, x.putTo(9), "putTo(9)");
        is(3, x.putTo(-1), "putTo(-1)");
        is(0, x.gather(2), "gather(2) with ten");
        is(10, x.count(4), "count(4)");
        // A minute ahead of 0.
        Quakebook y = standing(2, 95);
        y.arrive(0, 0, 1, 1);
        y.arrive(1, 0, 1, 1);
        is(1, y.gather(2), "gather(2)");
        is("0@0:-107", y.book(), "book()");
    }

    private void tell() {
        about("promise 11");
        Quakebook x = standing(1, 0);
        x.arrive(0, 0, 100, 1);
        is(0, x.tell(0, 103, 6, 4), "tell(0, 103, 6, 4)");
        is(1, x.putTo(0), "putTo(0)");
        is("3/2", x.size(0), "size(0)");
        is(1, x.tell(95, 9999, 9999, 999), "tell(95, 9999, 9999, 999)");
        is(2, x.tell(0, 0, 0, 0), "tell(0, 0, 0, 0)");
        is(3, x.tell(0, 0, 0, LOW), "tell(0, 0, 0, LOW)");
        is(0, x.ofShock(3, 2), "ofShock(3, 2)");
        is(4, x.tell(0, 5000, 0, 7), "tell(0, 5000, 0, 7)");
        is("-", x.size(4), "size(4)");
        index(x, () -> x.tell(96, -1, 0, 0), "tell(96, -1, 0, 0)");
        index(x, () -> x.tell(-1, 0, 0, 0), "tell(-1, 0, 0, 0)");
        argument(x, () -> x.tell(0, -1, 0, 0), "tell(0, -1, 0, 0)");
        argument(x, () -> x.tell(0, 10000, 0, 0), "tell(0, 10000, 0, 0)");
        argument(x, () -> x.tell(0, 0, -1, 1), "tell(0, 0, -1, 1)");
        argument(x, () -> x.tell(0, 0, 10000, 1), "tell(0, 0, 10000, 1)");
        argument(x, () -> x.tell(0, 0, 1, 0), "tell(0, 0, 1, 0)");
        argument(x, () -> x.tell(0, 0, 1, 1000), "tell(0, 0, 1, 1000)");
        for (int k = 5; k < 10; k++) {
            is(k, x.tell(k, k, 1, 1), "tell");
        }
        is(8, x.count(6), "count(6)");
        is(-9, x.tell(1, 1, 1, 1), "tell for the 11th time");
        is(10, x.count(4), "count(4)");
        index(x, () -> x.tell(96, 0, 0, 0), "tell(96, ..) with ten");
        argument(x, () -> x.tell(0, 0, 1, 0), "tell(.., 0) with ten");
    }

    private void drop() {
        about("promise 12");
        Quakebook x = standing(1, 0);
        x.arrive(0, 0, 100, 1);
        x.tell(0, 101, 1, 1);
        x.tell(95, 5, 2, 1);
        x.tell(0, 99, 3, 1);
        is(1, x.putTo(0), "putTo(0)");
        is(2, x.drop(0), "drop(0)");
        is("0@95:5 1@0:99", x.book(), "book()");
        is("3", x.size(1), "size(1)");
        // The arrival of the one that is gone FITS another one, which has moved up.
        is(1, x.putTo(1), "putTo(1)");
        is(1, x.drop(0), "drop(0)");
        is(1, x.putTo(0), "putTo(0)");
        is(0, x.drop(0), "drop(0)");
        is(1, x.putTo(-1), "putTo(-1)");
        index(x, () -> x.drop(0), "drop(0) without any");
        index(x, () -> x.drop(-1), "drop(-1)");
    }

    private void merge() {
        about("promise 13");
        Quakebook x = new Quakebook();
        x.tell(5, 10, 3, 2);
        x.tell(6, 20, 5, 1);
        x.tell(90, 500, 1, 1);
        x.tell(91, 505, 0, 0);
        x.tell(30, 15, 3, 2);
        is(0, x.merge(0, 0), "merge(0, 0)");
        is(3, x.merge(2, 15), "merge(2, 15)");
        is("0@6:20 1@90:500", x.book(), "book()");
        is(1, x.merge(18, 9999), "merge(18, 9999)");
        is("0@6:20", x.book(), "book()");
        is(0, x.merge(18, 9999), "merge(18, 9999) again");
        is(8, x.count(6), "count(6)");
        argument(x, () -> x.merge(19, 0), "merge(19, 0)");
        argument(x, () -> x.merge(-1, 0), "merge(-1, 0)");
        argument(x, () -> x.merge(0, 10000), "merge(0, 10000)");
        argument(x, () -> x.merge(0, -1), "merge(0, -1)");
        is(0, new Quakebook().merge(0, 0), "merge(0, 0) without any");
    }

    private void mergeMains() {
        about("promise 13");
        // The SIZES of the gathered ones are those ahead of the merging, though arrivals go over by it.
        Quakebook x = standing(1, 0);
        x.tell(0, 100, 0, 0);
        x.arrive(0, 0, 102, 4);
        x.tell(0, 104, 0, 0);
        is("4", x.size(0), "size(0)");
        is("-", x.size(1), "size(1)");
        x.tell(0, 103, 5, 1);
        is(2, x.merge(0, 4), "merge(0, 4)");
        is("0@0:103", x.book(), "book()");
        is(1, x.putTo(0), "putTo(0)");
        // Of the same SIZE the smaller minute, then the first.
        Quakebook y = new Quakebook();
        y.tell(0, 50, 2, 1);
        y.tell(1, 40, 4, 2);
        y.tell(2, 40, 6, 3);
        is(2, y.merge(1, 10), "merge(1, 10)");
        is("0@1:40", y.book(), "book()");
    }

    private void rule() {
        about("promise 14");
        Quakebook x = new Quakebook();
        is(0, x.rule(0, 1, 0, 11), "rule(0, 1, 0, 11)");
        is(1, x.rule(9999, 999, 11, 0), "rule(9999, 999, 11, 0)");
        argument(x, () -> x.rule(-1, 1, 0, 0), "rule(-1, 1, 0, 0)");
        argument(x, () -> x.rule(10000, 1, 0, 0), "rule(10000, 1, 0, 0)");
        argument(x, () -> x.rule(1, 0, 0, 0), "rule(1, 0, 0, 0)");
        argument(x, () -> x.rule(0, 1000, 0, 0), "rule(0, 1000, 0, 0)");
        argument(x, () -> x.rule(0, 1, 12, 0), "rule(0, 1, 12, 0)");
        argument(x, () -> x.rule(0, 1, -1, 0), "rule(0, 1, -1, 0)");
        argument(x, () -> x.rule(0, 1, 0, 12), "rule(0, 1, 0, 12)");
        argument(x, () -> x.rule(0, 1, 0, -1), "rule(0, 1, 0, -1)");
        x.rule(1, 1, 1, 1);
        is(3, x.rule(1, 1, 1, 1), "rule(1, 1, 1, 1)");
        is(-9, x.rule(1, 1, 1, 1), "rule for the fifth time");
        is(4, x.count(5), "count(5)");
        is(4, x.count(6), "count(6)");
        argument(x, () -> x.rule(0, 1, 0, 12), "rule(0, 1, 0, 12) with four");
    }

    private void noRules() {
        about("promise 15");
        Quakebook x = new Quakebook();
        x.tell(3, 0, 1, 1);
        x.rule(1, 1, 3, 3);
        x.rule(1, 1, 4, 3);
        is("0", x.alerts(), "alerts()");
        is(2, x.noRules(), "noRules()");
        is("", x.alerts(), "alerts()");
        is(0, x.count(5), "count(5)");
        is(0, x.noRules(), "noRules() again");
        is(5, x.count(6), "count(6)");
        is(0, x.rule(2, 1, 3, 3), "rule(2, 1, 3, 3)");
    }

    private void undo() {
        about("promise 16");
        Quakebook x = new Quakebook();
        for (int k = 1; k <= 9; k++) {
            x.slow(0, 0, k);
        }
        is(8, x.count(6), "count(6)");
        for (int k = 7; k >= 0; k--) {
            is(k, x.undo(), "undo()");
            is(k + 1, x.ofCell(0, 0), "ofCell(0, 0)");
        }
        state(x, x::undo, "undo() for the ninth time");
        // Changes behind an undo take the place of what was undone.
        x.slow(0, 0, 5);
        x.slow(0, 0, 6);
        x.undo();
        x.slow(0, 0, 7);
        is(2, x.count(6), "count(6)");
        is(1, x.undo(), "undo()");
        is(5, x.ofCell(0, 0), "ofCell(0, 0)");
        is(0, x.undo(), "undo()");
        is(1, x.ofCell(0, 0), "ofCell(0, 0)");
    }

    private void undoAll() {
        about("promise 16");
        for (int k = 0; k < 14; k++) {
            Quakebook x = standing(2, 3);
            x.arrive(0, 0, 118, 9);
            x.arrive(1, 0, 118, 9);
            x.arrive(0, 1, 500, 9);
            x.tell(3, 118, 1, 1);
            x.rule(1, 1, 0, 5);
            Call[] changes = {() -> x.slow(3, 0, 9), () -> x.layer(0, 1, 2), () -> x.wall(3, true),
                () -> x.station(9), () -> x.offset(0, 9), () -> x.slip(0), () -> x.arrive(1, 1, 500, 3),
                () -> x.forget(1), () -> x.gather(2), () -> x.tell(3, 500, 2, 1), () -> x.drop(0),
                () -> x.merge(18, 9999), () -> x.rule(1, 1, 0, 11), x::noRules};
            long before = x.digest();
            int put = x.putTo(0);
            changes[k].go();
            is(8, x.count(6), "count(6) behind change " + k);
            x.undo();
            is(before, x.digest(), "digest() behind the undone change " + k);
            is(put, x.putTo(0), "putTo(0) behind the undone change " + k);
            x.knock();
            x.undo();
            is(0, x.count(5), "count(5)");
            is(1, x.count(7), "count(7)");
        }
        Quakebook z = new Quakebook();
        z.tell(3, 10, 7, 1);
        z.tell(4, 5, 9, 2);
        z.rule(5, 1, 3, 3);
        z.rule(4, 1, 4, 4);
        z.drop(0);
        z.noRules();
        z.rule(9999, 1, 9, 9);
        z.rule(9998, 2, 8, 8);
        is("", z.alerts(), "alerts()");
        z.undo();
        z.undo();
        z.undo();
        z.undo();
        is("7", z.size(0), "size(0)");
        is("9/2", z.size(1), "size(1)");
        is("1@4:5 0@3:10", z.book(), "book()");
        is("0 1", z.alerts(), "alerts()");
        undoPlaces();
        undoRules();
        // What was put stays as it was, even if TIDYING would not put it so.
        Quakebook y = standing(1, 0);
        y.arrive(0, 0, 100, 1);
        y.tell(0, 101, 1, 1);
        y.tell(0, 99, 1, 1);
        y.drop(0);
        y.undo();
        is(1, y.putTo(0), "putTo(0)");
        y.offset(0, 4);
        is(1, y.putTo(1), "putTo(1)");
        y.offset(0, 0);
        is(1, y.putTo(1), "putTo(1) still");
        y.wall(7, true);
        y.undo();
        is(1, y.putTo(1), "putTo(1) behind undo");
    }

    private void undoPlaces() {
        Quakebook x = standing(1, 17);
        x.offset(0, 8);
        x.arrive(0, 1, 1234, 56);
        x.undo();
        x.undo();
        x.undo();
        is(0, x.ofCell(17, 3), "ofCell(17, 3)");
        // In their places others, with other numbers all through; then gone too.
        is(0, x.station(30), "station(30)");
        is(1, x.station(31), "station(31)");
        is(0, x.arrive(1, 1, 77, 9), "arrive(1, 1, 77, 9)");
        is(1, x.arrive(1, 0, 78, 8), "arrive(1, 0, 78, 8)");
        is(1, x.forget(1), "forget(1)");
        x.undo();
        x.undo();
        is(1, x.arrive(0, 1, 79, 7), "arrive(0, 1, 79, 7)");
        int[][] due = {{1, 1, 77, 9, 77, -1, -1, 0}, {0, 1, 79, 7, 79, -1, -1, 0}};
        for (int arrival = 0; arrival < 2; arrival++) {
            for (int what = 0; what < 8; what++) {
                is(due[arrival][what], x.ofArrival(arrival, what), "ofArrival(" + arrival + ", " + what + ")");
            }
        }
        x.undo();
        is(1, x.count(2), "count(2)");
        x.slip(3);
        x.undo();
        for (int what = 0; what < 8; what++) {
            is(due[0][what], x.ofArrival(0, what), "ofArrival(0, " + what + ") again");
        }
        is(1, x.ofCell(30, 3), "ofCell(30, 3)");
        is(1, x.ofCell(31, 3), "ofCell(31, 3)");
        is(0, x.ofCell(0, 3), "ofCell(0, 3)");
    }

    private void undoRules() {
        Quakebook x = new Quakebook();
        x.tell(6, 0, 3, 1);
        x.tell(2, 0, 3, 1);
        x.rule(9, 3, 5, 7);
        x.rule(10, 3, 0, 11);
        is("0", x.alerts(), "alerts()");
        x.noRules();
        x.rule(1, 999, 0, 2);
        x.rule(1, 999, 0, 0);
        is("1", x.alerts(), "alerts()");
        x.undo();
        x.undo();
        x.undo();
        is("0", x.alerts(), "alerts() behind undo()");
    }

    private void knock() {
        about("promise 17");
        Quakebook x = new Quakebook();
        is(1, x.knock(), "knock()");
        is(2, x.knock(), "knock()");
        is(0, x.count(6), "count(6)");
        x.wall(0, true);
        is(3, x.knock(), "knock()");
        x.undo();
        is(3, x.count(7), "count(7)");
        is(1, new Quakebook().knock(), "knock() of another");
    }

    private void ofCell() {
        about("promise 18");
        Quakebook x = standing(3, 95);
        x.slow(95, 0, 2);
        x.slow(95, 1, 8);
        x.wall(95, true);
        x.tell(95, 1, 1, 1);
        x.tell(95, 2, 1, 1);
        int[] due = {2, 8, 1, 3, 2};
        for (int what = 0; what < 5; what++) {
            is(due[what], x.ofCell(95, what), "ofCell(95, " + what + ")");
        }
        is(0, x.ofCell(94, 3), "ofCell(94, 3)");
        is(0, x.ofCell(94, 4), "ofCell(94, 4)");
        index(x, () -> x.ofCell(96, 5), "ofCell(96, 5)");
        index(x, () -> x.ofCell(-1, 0), "ofCell(-1, 0)");
        argument(x, () -> x.ofCell(0, 5), "ofCell(0, 5)");
        argument(x, () -> x.ofCell(0, -1), "ofCell(0, -1)");
    }

    private void time() {
        about("promise 19");
        Quakebook x = new Quakebook();
        is(0, x.time(7, 7, 1), "time(7, 7, 1)");
        is(108, x.time(0, 95, 0), "time(0, 95, 0)");
        is(180, x.time(95, 0, 1), "time(95, 0, 1)");
        // Cells at the ends of two rows are no neighbours.
        is(72, x.time(11, 12, 0), "time(11, 12, 0)");
        // Round a slow cell: 3+3, 3+3, 3+3, 3+3 is more than 3+8, 8+3, but less than 3+9+9+3 with 9 of 12.
        x.slow(1, 0, 9);
        is(24, x.time(0, 2, 0), "time(0, 2, 0)");
        is("0 1 2", x.way(0, 2, 0), "way(0, 2, 0)");
        x.layer(1, 0, 1);
        is(12, x.time(0, 2, 0), "time(0, 2, 0)");
        x.wall(12, true);
        x.wall(1, true);
        is(-1, x.time(0, 2, 0), "time(0, 2, 0)");
        is(0, x.time(0, 0, 0), "time(0, 0, 0)");
        is(-1, x.time(12, 12, 0), "time(12, 12, 0)");
        index(x, () -> x.time(96, 0, 0), "time(96, 0, 0)");
        index(x, () -> x.time(0, 96, 0), "time(0, 96, 0)");
        index(x, () -> x.time(0, -1, 0), "time(0, -1, 0)");
        index(x, () -> x.time(0, 0, 2), "time(0, 0, 2)");
        index(x, () -> x.time(0, 0, -1), "time(0, 0, -1)");
        snake();
    }

    /** The longest ways that walls can make: there and back through each second row. */
    private void snake() {
        Quakebook x = new Quakebook();
        for (int layer = 1; layer < 8; layer += 2) {
            for (int column = 0; column < 12; column++) {
                boolean isDoor = column == (layer % 4 == 1 ? 11 : 0);
                x.wall(12 * layer + column, !isDoor);
            }
        }
        for (int layer = 0; layer < 8; layer++) {
            x.layer(layer, 0, 9);
        }
        // 11 STEPS in each of four rows, 2 through each of three doors.
        is((44 + 6) * 18, x.time(0, 72, 0), "time(0, 72, 0)");
        is((44 + 7) * 18, x.time(0, 84, 0), "time(0, 84, 0)");
        is((44 + 7) * 18, x.time(84, 0, 0), "time(84, 0, 0)");
        is(52, x.way(84, 0, 0).split(" ").length, "cells of way(84, 0, 0)");
        is(true, x.isProved(84, 0, 0), "isProved(84, 0, 0)");
    }

    private void way() {
        about("promise 20");
        Quakebook x = new Quakebook();
        is("0 1 13", x.way(0, 13, 0), "way(0, 13, 0)");
        is("13 1 0", x.way(13, 0, 0), "way(13, 0, 0)");
        is("1 0 12", x.way(1, 12, 1), "way(1, 12, 1)");
        is("12 0 1", x.way(12, 1, 1), "way(12, 1, 1)");
        is("5", x.way(5, 5, 0), "way(5, 5, 0)");
        is("40 28", x.way(40, 28, 0), "way(40, 28, 0)");
        x.wall(5, true);
        is("", x.way(5, 5, 0), "way(5, 5, 0) in a wall");
        is("", x.way(4, 5, 0), "way(4, 5, 0) to a wall");
        is("4 16 17 18 6", x.way(4, 6, 0), "way(4, 6, 0)");
        index(x, () -> x.way(-1, 0, 0), "way(-1, 0, 0)");
        index(x, () -> x.way(0, 96, 0), "way(0, 96, 0)");
        index(x, () -> x.way(0, 0, 2), "way(0, 0, 2)");
    }

    private void reach() {
        about("promise 21");
        Quakebook x = new Quakebook();
        is(1, x.reach(0, 0, 0), "reach(0, 0, 0)");
        is(1, x.reach(0, 0, 5), "reach(0, 0, 5)");
        is(3, x.reach(0, 0, 6), "reach(0, 0, 6)");
        is(5, x.reach(50, 1, 10), "reach(50, 1, 10)");
        is(96, x.reach(50, 1, 9999), "reach(50, 1, 9999)");
        is(95, x.reach(0, 0, 107), "reach(0, 0, 107)");
        is(96, x.reach(0, 0, 108), "reach(0, 0, 108)");
        x.wall(50, true);
        is(0, x.reach(50, 0, 9999), "reach(50, 0, 9999)");
        is(95, x.reach(0, 0, 9999), "reach(0, 0, 9999)");
        index(x, () -> x.reach(96, 0, -1), "reach(96, 0, -1)");
        index(x, () -> x.reach(0, -1, 0), "reach(0, -1, 0)");
        argument(x, () -> x.reach(0, 0, -1), "reach(0, 0, -1)");
        argument(x, () -> x.reach(0, 0, 10000), "reach(0, 0, 10000)");
    }

    private void isProved() {
        about("promise 22");
        Quakebook x = new Quakebook();
        for (int k = 0; k < 96; k += 7) {
            x.slow(k, k % 2, 1 + k % 9);
            x.wall((k * 5 + 3) % 96, true);
        }
        for (int cell = 0; cell < 96; cell += 5) {
            is(true, x.isProved(cell, 95 - cell, cell % 2), "isProved(" + cell + ", ..)");
        }
        is(true, x.isProved(3, 3, 0), "isProved(3, 3, 0) in a wall");
        index(x, () -> x.isProved(96, 0, 0), "isProved(96, 0, 0)");
        index(x, () -> x.isProved(0, -1, 0), "isProved(0, -1, 0)");
        index(x, () -> x.isProved(0, 0, 2), "isProved(0, 0, 2)");
    }

    private void ofArrival() {
        about("promise 23");
        Quakebook x = standing(2, 1);
        x.offset(1, -4);
        x.arrive(1, 1, 100, 77);
        x.tell(1, 102, 1, 1);
        int[] due = {1, 1, 100, 77, 104, 0, 2, 0};
        for (int what = 0; what < 8; what++) {
            is(due[what], x.ofArrival(0, what), "ofArrival(0, " + what + ")");
        }
        x.offset(1, 0);
        is(100, x.ofArrival(0, 4), "ofArrival(0, 4)");
        is(2, x.ofArrival(0, 6), "ofArrival(0, 6)");
        x.drop(0);
        is(-1, x.ofArrival(0, 5), "ofArrival(0, 5)");
        is(-1, x.ofArrival(0, 6), "ofArrival(0, 6)");
        index(x, () -> x.ofArrival(1, 8), "ofArrival(1, 8)");
        index(x, () -> x.ofArrival(-1, 0), "ofArrival(-1, 0)");
        argument(x, () -> x.ofArrival(0, 8), "ofArrival(0, 8)");
        argument(x, () -> x.ofArrival(0, -1), "ofArrival(0, -1)");
    }

    private void best() {
        about("promise 24");
        Quakebook x = new Quakebook();
        x.station(0);
        x.station(11);
        x.station(84);
        x.station(95);
        // A shock in the cell 14 (TIMES 18, 60, 48, 90 by hand) at 100.
        x.arrive(0, 0, 118, 1);
        x.arrive(1, 0, 160, 1);
        x.arrive(2, 0, 148, 1);
        x.arrive(3, 0, 190, 1);
        x.arrive(3, 0, 191, 1);
        x.arrive(0, 1, 130, 1);
        x.forget(4);
        is(14, x.bestCell(15), "bestCell(15)");
        is(14, x.bestCell(47), "bestCell(47)");
        is(0, x.bestCell(1), "bestCell(1)");
        for (int set : new int[] {0, -1, LOW, HIGH, 16, 17, 64, 65}) {
            argument(x, () -> x.bestCell(set), "bestCell(" + set + ")");
            about("promise 25");
            argument(x, () -> x.bestMinute(set), "bestMinute(" + set + ")");
            about("promise 26");
            argument(x, () -> x.misfit(set), "misfit(" + set + ")");
            about("promise 27");
            argument(x, () -> x.possible(set), "possible(" + set + ")");
            about("promise 28");
            argument(x, () -> x.bad(set), "bad(" + set + ")");
            about("promise 24");
        }
        about("promise 25");
        is(100, x.bestMinute(15), "bestMinute(15)");
        is(118, x.bestMinute(1), "bestMinute(1)");
        about("promise 26");
        is(0, x.misfit(15), "misfit(15)");
        is(0, x.misfit(47), "misfit(47)");
        // The station of the one alone in a WALL: nowhere could it come from.
        x.wall(0, true);
        about("promise 24");
        is(-1, x.bestCell(15), "bestCell(15) with a wall");
        is(-1, x.bestCell(1), "bestCell(1) with a wall");
        about("promise 25");
        state(x, () -> x.bestMinute(1), "bestMinute(1) with a wall");
        argument(x, () -> x.bestMinute(16), "bestMinute(16) with a wall");
        about("promise 26");
        state(x, () -> x.misfit(15), "misfit(15) with a wall");
        argument(x, () -> x.misfit(0), "misfit(0) with a wall");
    }

    private void bestOfSeveral() {
        // Four at one place: from the second to the third of them all minutes are as good; 30 to the cell 0.
        Quakebook x = standing(4, 5);
        int[] minutes = {110, 100, 108, 103};
        for (int k = 0; k < 4; k++) {
            x.arrive(k, 0, minutes[k], 1);
        }
        about("promise 24");
        is(0, x.bestCell(15), "bestCell(15)");
        about("promise 25");
        is(73, x.bestMinute(15), "bestMinute(15)");
        is(78, x.bestMinute(7), "bestMinute(7)");
        about("promise 26");
        is(15, x.misfit(15), "misfit(15)");
        is(10, x.misfit(7), "misfit(7)");
        x.wall(0, true);
        about("promise 24");
        is(1, x.bestCell(15), "bestCell(15) with a wall");
        about("promise 25");
        x.offset(0, 99);
        is(-13, x.bestMinute(1), "bestMinute(1) with an offset");
        about("promise 23");
        is(11, x.ofArrival(0, 4), "ofArrival(0, 4)");
    }

    private void possible() {
        about("promise 27");
        Quakebook x = new Quakebook();
        x.station(0);
        x.station(11);
        x.arrive(0, 0, 118, 1);
        x.arrive(1, 0, 160, 1);
        is("2 14 26 38 50 62 74 86", x.possible(3), "possible(3)");
        x.slip(5);
        is("2 14 26 38 50 62 74 86", x.possible(3), "possible(3) with a slip of 5");
        x.slip(6);
        is(24, x.possible(3).split(" ").length, "cells of possible(3) with a slip of 6");
        x.slip(0);
        is("2 14 26 38 50 62 74 86", x.possible(3), "possible(3) with a slip of 0");
        x.arrive(0, 0, 119, 1);
        is("", x.possible(5), "possible(5)");
        x.slip(1);
        is(96, x.possible(5).split(" ").length, "cells of possible(5)");
        x.wall(7, true);
        is(95, x.possible(5).split(" ").length, "cells of possible(5) with a wall");
    }

    private void bad() {
        about("promise 28");
        Quakebook x = standing(3, 5);
        x.arrive(0, 0, 100, 1);
        x.arrive(1, 0, 102, 1);
        x.arrive(2, 0, 200, 1);
        is(0, x.bad(3), "bad(3)");
        // Without 2 the others are possible; without 1 they are not; without 0 again they are.
        is(5, x.bad(7), "bad(7)");
        is(6, x.bad(6), "bad(6)");
        x.arrive(0, 0, 400, 1);
        is(5, x.bad(15), "bad(15)");
        // The first goes at last: it is with each of the others, and these are not with one another.
        Quakebook first = standing(1, 5);
        first.arrive(0, 0, 103, 1);
        first.arrive(0, 0, 100, 1);
        first.arrive(0, 0, 107, 1);
        is(6, first.bad(7), "bad(7) without the first");
        // All that there can be: the last one goes first.
        for (int k = 3; k < 24; k++) {
            first.arrive(0, 0, k < 23 ? 103 : 400, 1);
        }
        is(6, first.bad((1 << 24) - 1), "bad() of all");
        is(1 << 23 | 1 << 22, first.bad(3 << 22), "bad() of the last two");
        is(0, first.bad(1 << 23), "bad() of the last one");
        is(0, first.bestCell(1 << 23), "bestCell() of the last one");
        argument(first, () -> first.bad(1 << 24), "bad(1 << 24)");
        argument(first, () -> first.bestCell(1 << 24 | 1), "bestCell(1 << 24 | 1)");
        // Just the cell 0 is possible: 7 rows nearer to the one than to the other.
        Quakebook y = standing(1, 0);
        y.station(84);
        y.slip(0);
        y.wall(1, true);
        y.arrive(0, 0, 100, 1);
        y.arrive(1, 0, 142, 1);
        is("0", y.possible(3), "possible(3)");
        is(0, y.bad(3), "bad(3)");
        y.arrive(1, 0, 143, 1);
        is(5, y.bad(7), "bad(7)");
        x.wall(5, true);
        is(1, x.bad(7), "bad(7) in a wall");
        is(8, x.bad(8), "bad(8) in a wall");
    }

    private void putTo() {
        about("promise 29");
        Quakebook x = standing(2, 0);
        x.tell(0, 100, 1, 1);
        x.tell(0, 101, 1, 1);
        x.arrive(0, 0, 100, 1);
        x.arrive(0, 0, 100, 1);
        x.arrive(0, 0, 100, 1);
        x.arrive(1, 0, 104, 1);
        x.arrive(0, 1, 97, 1);
        // The first is put to the first; its kind is taken there, so the second goes on; the third is left.
        is(1 + 16, x.putTo(0), "putTo(0)");
        is(2 + 8, x.putTo(1), "putTo(1)");
        is(4, x.putTo(-1), "putTo(-1)");
        index(x, () -> x.putTo(2), "putTo(2)");
        about("promise 23");
        is(1, x.ofArrival(1, 5), "ofArrival(1, 5)");
        is(1, x.ofArrival(1, 6), "ofArrival(1, 6)");
        is(3, x.ofArrival(3, 6), "ofArrival(3, 6)");
        is(3, x.ofArrival(4, 6), "ofArrival(4, 6)");
        about("promise 30");
        is(3, x.ofShock(0, 4), "ofShock(0, 4)");
        is(4, x.ofShock(1, 4), "ofShock(1, 4)");
        about("promise 29");
        index(x, () -> x.putTo(-2), "putTo(-2)");
    }

    private void ofShock() {
        about("promise 30");
        Quakebook x = standing(2, 0);
        x.tell(12, 100, 1, 1);
        x.tell(13, 9, 0, 7);
        x.arrive(0, 0, 108, 1);
        x.arrive(1, 0, 103, 1);
        x.rule(1, 1, 0, 0);
        int[] due = {12, 100, 1, 2, 5, 1};
        int[] other = {13, 9, 0, 0, 0, 0};
        for (int what = 0; what < 6; what++) {
            is(due[what], x.ofShock(0, what), "ofShock(0, " + what + ")");
            is(other[what], x.ofShock(1, what), "ofShock(1, " + what + ")");
        }
        index(x, () -> x.ofShock(2, 6), "ofShock(2, 6)");
        index(x, () -> x.ofShock(-1, 0), "ofShock(-1, 0)");
        argument(x, () -> x.ofShock(0, 6), "ofShock(0, 6)");
        argument(x, () -> x.ofShock(0, -1), "ofShock(0, -1)");
    }

    private void size() {
        about("promise 31");
        Quakebook x = standing(3, 0);
        x.tell(1, 100, 0, 0);
        is("-", x.size(0), "size(0)");
        x.arrive(0, 0, 106, 10);
        is("70", x.size(0), "size(0)");
        x.arrive(1, 1, 110, 20);
        is("145", x.size(0), "size(0)");
        x.arrive(2, 0, 107, 1);
        // (10 * 7 + 20 * 11 + 1 * 7) / 3
        is("99", x.size(0), "size(0)");
        x.forget(0);
        is("227/2", x.size(0), "size(0)");
        x.tell(5, 5, 9998, 998);
        is("4999/499", x.size(1), "size(1)");
        x.tell(5, 5, 500, 250);
        is("2", x.size(2), "size(2)");
        index(x, () -> x.size(3), "size(3)");
        index(x, () -> x.size(-1), "size(-1)");
    }

    private void clusters() {
        about("promise 32");
        Quakebook x = new Quakebook();
        x.tell(50, 100, 1, 1);
        x.tell(0, 100, 1, 1);
        x.tell(52, 110, 1, 1);
        x.tell(54, 120, 1, 1);
        x.tell(13, 100, 1, 1);
        is("0,2,3 1,4", x.clusters(2, 10), "clusters(2, 10)");
        is("0 1 2 3 4", x.clusters(1, 10), "clusters(1, 10)");
        is("0 1,4 2 3", x.clusters(2, 9), "clusters(2, 9)");
        is("0 1 2 3 4", x.clusters(0, 9999), "clusters(0, 9999)");
        is("0,1,2,3,4", x.clusters(18, 20), "clusters(18, 20)");
        argument(x, () -> x.clusters(19, 0), "clusters(19, 0)");
        argument(x, () -> x.clusters(-1, 0), "clusters(-1, 0)");
        argument(x, () -> x.clusters(0, 10000), "clusters(0, 10000)");
        argument(x, () -> x.clusters(0, -1), "clusters(0, -1)");
        // A chain whose links come in against the numbers.
        Quakebook y = new Quakebook();
        int[] cells = {0, 9, 8, 7, 6, 5, 4, 3, 2, 1};
        for (int cell : cells) {
            y.tell(cell, 0, 0, 0);
        }
        is("0,1,2,3,4,5,6,7,8,9", y.clusters(1, 0), "clusters(1, 0)");
    }

    private void ofCluster() {
        about("promise 33");
        Quakebook x = new Quakebook();
        x.tell(10, 30, 0, 0);
        x.tell(10, 20, 5, 2);
        x.tell(10, 40, 5, 2);
        x.tell(10, 10, 1, 1);
        x.tell(90, 20, 9, 1);
        int[] due = {4, 1, 1, 2, 10, 40};
        for (int what = 0; what < 6; what++) {
            for (int shock = 0; shock < 4; shock++) {
                is(due[what], x.ofCluster(shock, 0, 10, what), "ofCluster(" + shock + ", 0, 10, " + what + ")");
            }
        }
        is(1, x.ofCluster(4, 0, 10, 0), "ofCluster(4, 0, 10, 0)");
        is(4, x.ofCluster(4, 0, 10, 1), "ofCluster(4, 0, 10, 1)");
        is(4, x.ofCluster(0, 18, 10, 1), "ofCluster(0, 18, 10, 1)");
        is(0, x.ofCluster(0, 0, 0, 1), "ofCluster(0, 0, 0, 1)");
        // One without a SIZE is less than all, though it is the first and has the smallest minute.
        Quakebook y = new Quakebook();
        y.tell(0, 0, 0, 0);
        y.tell(0, 1, 1, 999);
        y.tell(0, 2, 0, 0);
        is(1, y.ofCluster(0, 0, 1, 1), "ofCluster(0, 0, 1, 1)");
        is(1, y.ofCluster(0, 0, 1, 2), "ofCluster(0, 0, 1, 2)");
        is(1, y.ofCluster(2, 0, 1, 3), "ofCluster(2, 0, 1, 3)");
        y.drop(1);
        is(0, y.ofCluster(1, 0, 2, 1), "ofCluster(1, 0, 2, 1)");
        y.tell(0, 3, 1, 9);
        y.tell(0, 0, 0, 0);
        is(2, y.ofCluster(0, 0, 3, 1), "ofCluster(0, 0, 3, 1)");
        index(x, () -> x.ofCluster(5, 19, 0, 0), "ofCluster(5, 19, 0, 0)");
        index(x, () -> x.ofCluster(-1, 0, 0, 0), "ofCluster(-1, 0, 0, 0)");
        argument(x, () -> x.ofCluster(0, 19, 0, 0), "ofCluster(0, 19, 0, 0)");
        argument(x, () -> x.ofCluster(0, 0, 10000, 0), "ofCluster(0, 0, 10000, 0)");
        argument(x, () -> x.ofCluster(0, 0, 0, 6), "ofCluster(0, 0, 0, 6)");
        argument(x, () -> x.ofCluster(0, 0, 0, -1), "ofCluster(0, 0, 0, -1)");
    }

    private void rate() {
        about("promise 34");
        Quakebook x = new Quakebook();
        x.tell(0, 0, 0, 0);
        x.tell(0, 10, 0, 0);
        x.tell(0, 10, 0, 0);
        x.tell(0, 20, 0, 0);
        is("3/20", x.rate(0, 20), "rate(0, 20)");
        is("4/21", x.rate(0, 21), "rate(0, 21)");
        is("2", x.rate(10, 11), "rate(10, 11)");
        is("0", x.rate(11, 20), "rate(11, 20)");
        is("1/5", x.rate(1, 11), "rate(1, 11)");
        is("2/9999", x.rate(-9999, 9999), "rate(-9999, 9999)");
        is("-", x.rate(10, 10), "rate(10, 10)");
        is("-", x.rate(9999, 9999), "rate(9999, 9999)");
        argument(x, () -> x.rate(10, 9), "rate(10, 9)");
        argument(x, () -> x.rate(-10000, 9), "rate(-10000, 9)");
        argument(x, () -> x.rate(10000, 10000), "rate(10000, 10000)");
        argument(x, () -> x.rate(0, 10000), "rate(0, 10000)");
    }

    private void forecast() {
        about("promise 35");
        Quakebook x = new Quakebook();
        x.tell(0, 0, 0, 0);
        x.tell(0, 10, 0, 0);
        x.tell(0, 20, 0, 0);
        is("5/2", x.forecast(0, 20, 25), "forecast(0, 20, 25)");
        is("0", x.forecast(0, 20, 0), "forecast(0, 20, 0)");
        is("0", x.forecast(1, 10, 9999), "forecast(1, 10, 9999)");
        is("9999", x.forecast(0, 1, 9999), "forecast(0, 1, 9999)");
        is("-", x.forecast(5, 5, 5), "forecast(5, 5, 5)");
        is("-", x.forecast(5, 5, 0), "forecast(5, 5, 0)");
        argument(x, () -> x.forecast(10, 9, 1), "forecast(10, 9, 1)");
        argument(x, () -> x.forecast(-10000, 9, 1), "forecast(-10000, 9, 1)");
        argument(x, () -> x.forecast(0, 10000, 1), "forecast(0, 10000, 1)");
        argument(x, () -> x.forecast(0, 1, -1), "forecast(0, 1, -1)");
        argument(x, () -> x.forecast(0, 1, 10000), "forecast(0, 1, 10000)");
    }

    private void slope() {
        about("promise 36");
        Quakebook x = new Quakebook();
        is("-", x.slope(0, 1), "slope(0, 1) without any");
        x.tell(0, 0, 3, 2);
        x.tell(0, 0, 5, 1);
        x.tell(0, 0, 1, 1);
        x.tell(0, 0, 0, 0);
        x.tell(0, 0, 3, 2);
        is("4/5", x.slope(1, 1), "slope(1, 1)");
        is("4/9", x.slope(0, 1), "slope(0, 1)");
        is("6/7", x.slope(3, 2), "slope(3, 2)");
        is("-", x.slope(5, 1), "slope(5, 1)");
        is("-", x.slope(9999, 1), "slope(9999, 1)");
        is("2", x.slope(9, 2), "slope(9, 2)");
        argument(x, () -> x.slope(-1, 1), "slope(-1, 1)");
        argument(x, () -> x.slope(10000, 1), "slope(10000, 1)");
        argument(x, () -> x.slope(0, 0), "slope(0, 0)");
        argument(x, () -> x.slope(0, 1000), "slope(0, 1000)");
        // Bottoms that share nothing: the sum has far more than 64 bits.
        Quakebook y = new Quakebook();
        int[] primes = {997, 991, 983, 977, 971, 967, 953, 947, 941, 937};
        java.math.BigInteger top = java.math.BigInteger.ZERO;
        java.math.BigInteger bottom = java.math.BigInteger.ONE;
        for (int k = 0; k < 10; k++) {
            y.tell(0, 0, 9999 - k, primes[k]);
            top = top.multiply(java.math.BigInteger.valueOf(primes[k]))
                    .add(bottom.multiply(java.math.BigInteger.valueOf(9999 - k)));
            bottom = bottom.multiply(java.math.BigInteger.valueOf(primes[k]));
        }
        java.math.BigInteger ten = bottom.multiply(java.math.BigInteger.TEN);
        java.math.BigInteger gcd = ten.gcd(top);
        is(ten.divide(gcd) + "/" + top.divide(gcd), y.slope(0, 1), "slope(0, 1) of great bottoms");
    }

    private void alerts() {
        about("promise 37");
        Quakebook x = new Quakebook();
        x.tell(12 * 3 + 4, 0, 3, 2);
        x.tell(12 * 5 + 6, 0, 5, 3);
        x.tell(7, 0, 9999, 1);
        x.tell(5, 0, 0, 0);
        x.tell(3, 0, 2, 1);
        is("", x.alerts(), "alerts() without rules");
        x.rule(5, 3, 6, 4);
        is("1", x.alerts(), "alerts()");
        x.rule(3, 2, 4, 4);
        is("0 1", x.alerts(), "alerts()");
        x.rule(0, 1, 5, 11);
        is("0 1 2", x.alerts(), "alerts()");
        x.rule(0, 1, 0, 3);
        is("0 1 2 4", x.alerts(), "alerts()");
    }

    private void book() {
        about("promise 38");
        Quakebook x = new Quakebook();
        x.tell(9, 20, 0, 0);
        x.tell(8, 20, 0, 0);
        x.tell(95, 5, 0, 0);
        x.tell(8, 20, 0, 0);
        x.tell(0, 9999, 0, 0);
        is("2@95:5 1@8:20 3@8:20 0@9:20 4@0:9999", x.book(), "book()");
    }

    /** A STATION in the cell 0, and SHOCKS in the cells 2 and 1, heard 13 and 6 minutes later. */
    private static Quakebook heardTwice() {
        Quakebook x = standing(1, 0);
        x.tell(2, 100, 0, 0);
        x.tell(1, 200, 0, 0);
        x.arrive(0, 0, 113, 1);
        x.arrive(0, 0, 206, 1);
        return x;
    }

    private void made() {
        about("promise 39");
        Quakebook x = heardTwice();
        // 4 s = 13 and 2 s = 6: s = (52 + 12) / 20
        is("16/5 . . . . . . .", x.made(0), "made(0)");
        is("-", x.made(1), "made(1)");
        x.forget(1);
        is("13/4 . . . . . . .", x.made(0), "made(0)");
        index(x, () -> x.made(2), "made(2)");
        index(x, () -> x.made(-1), "made(-1)");
        // Below 0, and 0 itself: a quick ground, and a slip that leaves room.
        Quakebook y = standing(1, 95);
        y.layer(7, 1, 1);
        y.slip(9);
        y.tell(94, 100, 0, 0);
        y.arrive(0, 1, 93, 1);
        is(". . . . . . . -7/2", y.made(1), "made(1)");
        y.offset(0, -7);
        is(". . . . . . . 0", y.made(1), "made(1)");
    }

    private void madeByLayers() {
        about("promise 39");
        // Rows 0 and 1 only in sum: not determined; one along the row 1 makes both out.
        Quakebook x = standing(1, 0);
        x.station(14);
        x.tell(12, 100, 0, 0);
        x.arrive(0, 0, 107, 1);
        is("-", x.made(0), "made(0)");
        is(2, x.ofMade(0, 1), "ofMade(0, 1)");
        is(0, x.ofMade(0, 2), "ofMade(0, 2)");
        x.arrive(1, 0, 114, 1);
        is("7/2 7/2 . . . . . .", x.made(0), "made(0)");
        is("0", x.left(0), "left(0)");
        x.undo();
        is("-", x.made(0), "made(0)");
        // One without a STEP alone has no LAYER.
        Quakebook y = standing(1, 30);
        y.tell(30, 100, 0, 0);
        y.arrive(0, 0, 101, 1);
        is("-", y.made(0), "made(0)");
        is(1, y.ofMade(0, 0), "ofMade(0, 0)");
        is(0, y.ofMade(0, 1), "ofMade(0, 1)");
    }

    private void left() {
        about("promise 40");
        Quakebook x = heardTwice();
        is("1/5", x.left(0), "left(0)");
        is("-", x.left(1), "left(1)");
        // One without a STEP, 2 minutes off, adds its square.
        x.tell(0, 300, 0, 0);
        x.arrive(0, 0, 302, 1);
        is("16/5 . . . . . . .", x.made(0), "made(0)");
        is("21/5", x.left(0), "left(0)");
        x.forget(0);
        x.forget(1);
        is("-", x.left(0), "left(0)");
        index(x, () -> x.left(2), "left(2)");
        index(x, () -> x.left(-1), "left(-1)");
        Quakebook y = standing(1, 0);
        y.tell(1, 10, 0, 0);
        y.arrive(0, 0, 17, 1);
        is("0", y.left(0), "left(0)");
    }

    private void ofMade() {
        about("promise 41");
        Quakebook x = heardTwice();
        int[] due = {2, 1, 1};
        for (int what = 0; what < 3; what++) {
            is(due[what], x.ofMade(0, what), "ofMade(0, " + what + ")");
            is(0, x.ofMade(1, what), "ofMade(1, " + what + ")");
        }
        x.arrive(0, 0, 5000, 1);
        is(2, x.ofMade(0, 0), "ofMade(0, 0)");
        index(x, () -> x.ofMade(2, 3), "ofMade(2, 3)");
        index(x, () -> x.ofMade(-1, 0), "ofMade(-1, 0)");
        argument(x, () -> x.ofMade(0, 3), "ofMade(0, 3)");
        argument(x, () -> x.ofMade(0, -1), "ofMade(0, -1)");
    }

    private void count() {
        about("promise 42");
        Quakebook x = standing(2, 0);
        x.wall(90, true);
        x.wall(91, true);
        x.arrive(0, 0, 100, 1);
        x.arrive(1, 0, 100, 1);
        x.arrive(1, 0, 900, 1);
        x.arrive(1, 0, 800, 1);
        x.tell(0, 100, 1, 1);
        x.forget(3);
        x.rule(1, 1, 1, 1);
        x.knock();
        x.slip(7);
        int[] due = {2, 3, 4, 1, 1, 1, 8, 1, 7, 2};
        for (int what = 0; what < 10; what++) {
            is(due[what], x.count(what), "count(" + what + ")");
        }
        argument(x, () -> x.count(10), "count(10)");
        argument(x, () -> x.count(-1), "count(-1)");
        argument(x, () -> x.count(LOW), "count(LOW)");
    }

    private void isSound() {
        about("promise 43");
        Quakebook x = heardTwice();
        is(true, x.isSound(), "isSound()");
        x.station(50);
        x.arrive(1, 1, 150, 1);
        x.wall(0, true);
        is(true, x.isSound(), "isSound() with a wall");
        x.undo();
        x.tell(0, 300, 0, 0);
        x.arrive(0, 0, 302, 1);
        x.gather(2);
        is(true, x.isSound(), "isSound() behind gather(2)");
        x.merge(18, 9999);
        is(true, x.isSound(), "isSound() behind merge(18, 9999)");
    }

    private static Quakebook heardElsewhereToo() {
        Quakebook x = heardTwice();
        x.rule(1, 1, 0, 11);
        x.station(95);
        x.arrive(1, 1, 400, 5);
        return x;
    }

    private void digest() {
        about("promise 44");
        is(byHand(PromiseTest::heardElsewhereToo), heardElsewhereToo().digest(), "digest()");
        Quakebook x = heardElsewhereToo();
        long before = x.digest();
        is(before, x.digest(), "digest() again");
        x.knock();
        is(false, before == x.digest(), "digest() is the same behind knock()");
        is(byHand(() -> {
            Quakebook y = heardElsewhereToo();
            y.knock();
            return y;
        }), x.digest(), "digest() behind knock()");
        is(byHand(Quakebook::new), new Quakebook().digest(), "digest() of a new one");
    }

    private static long byHand(Supplier<Quakebook> same) {
        long d = 6601;
        for (long v : Books.values(same)) {
            d = d * 31 + v;
        }
        return d;
    }
}
