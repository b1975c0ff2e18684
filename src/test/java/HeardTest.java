/** The boundary cases of the document's section 2: STATIONS, ARRIVALS, BEST, POSSIBLE and BAD sets. */
public final class HeardTest extends Looks {
    public static void main(String[] args) {
        HeardTest t = new HeardTest();
        t.noStations();
        t.sixStations();
        t.stationAnywhere();
        t.offsets();
        t.offsetOfMinus9();
        t.farthest();
        t.farthestBack();
        t.slips();
        t.noArrivals();
        t.allArrivals();
        t.leastAndMost();
        t.hours();
        t.misfits();
        t.noOnes();
        t.forgetAll();
        t.forgottenKeeps();
        t.bestOfOne();
        t.bestMiddle();
        t.bestCellAhead();
        t.bestSumAhead();
        t.noBest();
        t.possibleBySlip();
        t.possibleWithWalls();
        t.badNone();
        t.badOrder();
        t.badOfAll();
        t.putToNone();
        t.end();
    }

    private void noStations() {
        about("without any STATION");
        Quakebook x = new Quakebook();
        is(0, x.count(0), "count(0)");
        index(x, () -> x.offset(0, 0), "offset(0, 0)");
        index(x, () -> x.arrive(0, 0, 0, 1), "arrive(0, 0, 0, 1)");
        index(x, () -> x.ofArrival(0, 0), "ofArrival(0, 0)");
        index(x, () -> x.forget(0), "forget(0)");
    }

    private void sixStations() {
        about("at most 6 STATIONS, numbered from 0, each in a cell (several may be in one)");
        Quakebook x = new Quakebook();
        for (int k = 0; k < 6; k++) {
            is(k, x.count(0), "count(0)");
            is(k, x.station(7), "station(7)");
        }
        is(6, x.ofCell(7, 3), "ofCell(7, 3)");
        String before = Books.told(x);
        is(-9, x.station(7), "station(7) for the seventh time");
        is(-9, x.station(0), "station(0)");
        index(x, () -> x.station(96), "station(96) with six");
        index(x, () -> x.station(-1), "station(-1) with six");
        is(before, Books.told(x), "what is told behind them");
        is(0, x.offset(5, 1), "offset(5, 1)");
        index(x, () -> x.offset(6, 1), "offset(6, 1)");
        x.undo();
        is(5, x.undo(), "undo() of the sixth");
        is(5, x.count(0), "count(0)");
        index(x, () -> x.offset(5, 1), "offset(5, 1) without it");
        is(5, x.station(8), "station(8)");
        is(-9, x.station(9), "station(9)");
    }

    private void stationAnywhere() {
        about("station(): no such cell");
        Quakebook x = new Quakebook();
        is(0, x.station(0), "station(0)");
        is(1, x.station(95), "station(95)");
        index(x, () -> x.station(96), "station(96)");
        index(x, () -> x.station(-1), "station(-1)");
        index(x, () -> x.station(LOW), "station(LOW)");
        index(x, () -> x.station(HIGH), "station(HIGH)");
        is(2, x.count(6), "count(6)");
        x.wall(3, true);
        is(2, x.station(3), "station(3) in a wall");
        is(1, x.ofCell(3, 3), "ofCell(3, 3)");
    }

    private void offsets() {
        about("an OFFSET is -99 to 99; 0 at first");
        Quakebook x = standing(6, 0);
        for (int station = 0; station < 6; station++) {
            is(0, x.offset(station, -99), "offset(" + station + ", -99)");
            is(-99, x.offset(station, 99), "offset(" + station + ", 99)");
        }
        argument(x, () -> x.offset(0, 100), "offset(0, 100)");
        argument(x, () -> x.offset(5, -100), "offset(5, -100)");
        index(x, () -> x.offset(6, 100), "offset(6, 100)");
        is(99, x.offset(5, 0), "offset(5, 0)");
        // A new one in the place of one that was UNDONE begins with 0 again.
        Quakebook y = new Quakebook();
        y.station(0);
        y.offset(0, 55);
        y.undo();
        y.undo();
        y.station(1);
        is(0, y.offset(0, 1), "offset(0, 1) of a new one");
    }

    private void offsetOfMinus9() {
        about("offset(): \"Returns that before\", also -9, which then is an OFFSET like each other one");
        Quakebook x = standing(1, 0);
        x.tell(0, 100, 0, 0);
        x.arrive(0, 0, 100, 1);
        for (int before = -11; before <= -7; before++) {
            is(before == -11 ? 0 : before - 1, x.offset(0, before), "offset(0, " + before + ")");
            is(0, x.putTo(0), "putTo(0)");
        }
        is(-7, x.offset(0, -9), "offset(0, -9)");
        is(109, x.ofArrival(0, 4), "ofArrival(0, 4)");
        is(-9, x.offset(0, 1), "offset(0, 1)");
        is(99, x.ofArrival(0, 4), "ofArrival(0, 4)");
        is(1, x.putTo(0), "putTo(0)");
        is(true, x.isSound(), "isSound()");
        is(7, x.undo(), "undo()");
        is(109, x.ofArrival(0, 4), "ofArrival(0, 4) behind undo()");
        is(0, x.putTo(0), "putTo(0) behind undo()");
        is(-9, x.offset(0, -9), "offset(0, -9) as it was");
        is(8, x.count(6), "count(6)");
    }

    private void farthest() {
        about("HOUR: minute less OFFSET, up to 10098; a SHOCK at the other end of the longest WAY");
        Quakebook x = GroundTest.winding(0, 9);
        x.station(89);
        x.slip(9);
        x.offset(0, -99);
        int time = 61 * 18;
        is(0, x.tell(9, 9000, 0, 0), "tell(9, 9000, 0, 0)");
        is(1, x.tell(9, 8991, 0, 0), "tell(9, 8991, 0, 0)");
        is(2, x.tell(9, 8990, 0, 0), "tell(9, 8990, 0, 0)");
        for (int k = 0; k < 3; k++) {
            is(k, x.arrive(0, 0, 9999, 999 - k), "arrive(0, 0, 9999, ..)");
            is(9000 + time, x.ofArrival(k, 4), "ofArrival(" + k + ", 4)");
            is(k < 2 ? k : -1, x.ofArrival(k, 5), "ofArrival(" + k + ", 5)");
            is(k < 2 ? 9 * k : -1, x.ofArrival(k, 6), "ofArrival(" + k + ", 6)");
        }
        is("1097901", x.size(0), "size(0)");
        is("1096802", x.size(1), "size(1)");
        is("-", x.size(2), "size(2)");
        // 2 / (1097901 + 1096802 - 2 * 9999)
        is("2/2174705", x.slope(9999, 1), "slope(9999, 1)");
        is(0, x.rule(9999, 1, 9, 9), "rule(9999, 1, 9, 9)");
        is("0 1", x.alerts(), "alerts()");
        is(true, x.isSound(), "isSound()");
    }

    private void farthestBack() {
        about("HOUR: minute less OFFSET, down to -99; BEST and GATHERED long ahead of it");
        Quakebook x = GroundTest.winding(0, 9);
        for (int layer = 0; layer < 8; layer++) {
            x.layer(layer, 1, 8);
        }
        x.station(89);
        x.offset(0, 99);
        x.slip(0);
        // The WAVES are 2 apart each STEP: as far apart as 61 STEPS make them, they come from the other end alone.
        is(0, x.arrive(0, 1, 0, 1), "arrive(0, 1, 0, 1)");
        is(1, x.arrive(0, 0, 122, 1), "arrive(0, 0, 122, 1)");
        is(2, x.arrive(0, 0, 124, 1), "arrive(0, 0, 124, 1)");
        is(-99, x.ofArrival(0, 4), "ofArrival(0, 4)");
        is("9", x.possible(3), "possible(3)");
        is(9, x.bestCell(3), "bestCell(3)");
        is(-99 - 61 * 16, x.bestMinute(3), "bestMinute(3)");
        is(0, x.misfit(3), "misfit(3)");
        is("", x.possible(5), "possible(5)");
        is(5, x.bad(7), "bad(7)");
        is(9, x.bestCell(5), "bestCell(5)");
        is(-1075, x.bestMinute(5), "bestMinute(5)");
        is(2, x.misfit(5), "misfit(5)");
        is(1, x.gather(2), "gather(2)");
        is("0@9:-1075", x.book(), "book()");
        is(3, x.putTo(0), "putTo(0)");
        is("1", x.rate(-1075, -1074), "rate(-1075, -1074)");
        is("0", x.rate(-9999, -1075), "rate(-9999, -1075)");
        is("1/8925", x.rate(-9999, -1074), "rate(-9999, -1074)");
        is("0", x.rate(-1074, 9999), "rate(-1074, 9999)");
        is(-1075, x.ofCluster(0, 0, 0, 4), "ofCluster(0, 0, 0, 4)");
        is(true, x.isSound(), "isSound()");
    }

    private void slips() {
        about("the SLIP is 0 to 9 (3 at first)");
        Quakebook x = new Quakebook();
        is(3, x.count(8), "count(8)");
        is(3, x.slip(0), "slip(0)");
        is(0, x.slip(9), "slip(9)");
        argument(x, () -> x.slip(10), "slip(10)");
        argument(x, () -> x.slip(-1), "slip(-1)");
        is(9, x.count(8), "count(8)");
        is(9, x.slip(9), "slip(9) as it was");
        is(3, x.count(6), "count(6)");
    }

    private void noArrivals() {
        about("without any ARRIVAL");
        Quakebook x = standing(1, 0);
        is(0, x.count(1) + x.count(2) + x.count(3), "those that are counted");
        is(0, x.putTo(-1), "putTo(-1)");
        index(x, () -> x.forget(0), "forget(0)");
        index(x, () -> x.ofArrival(0, 0), "ofArrival(0, 0)");
        argument(x, () -> x.bestCell(0), "bestCell(0)");
        argument(x, () -> x.bestCell(1), "bestCell(1)");
        argument(x, () -> x.possible(0), "possible(0)");
        argument(x, () -> x.bad(0), "bad(0)");
        is(0, x.gather(2), "gather(2)");
    }

    private void allArrivals() {
        about("at most 24 ARRIVALS, numbered from 0 as they are written");
        Quakebook x = standing(2, 0);
        for (int k = 0; k < 24; k++) {
            is(k, x.count(2), "count(2)");
            is(k, x.arrive(k % 2, 0, k * 100, 1), "arrive");
        }
        is((1 << 24) - 1, x.putTo(-1), "putTo(-1)");
        String before = Books.told(x);
        is(-9, x.arrive(0, 0, 100, 1), "arrive for the 25th time");
        index(x, () -> x.arrive(2, 0, 100, 1), "arrive(2, 0, 100, 1) with 24");
        index(x, () -> x.arrive(0, 2, 100, 1), "arrive(0, 2, 100, 1) with 24");
        argument(x, () -> x.arrive(0, 0, 10000, 1), "arrive(0, 0, 10000, 1) with 24");
        argument(x, () -> x.arrive(0, 0, 0, 1000), "arrive(0, 0, 0, 1000) with 24");
        is(before, Books.told(x), "what is told behind them");
        is(2300, x.ofArrival(23, 2), "ofArrival(23, 2)");
        index(x, () -> x.ofArrival(24, 2), "ofArrival(24, 2)");
        index(x, () -> x.forget(24), "forget(24)");
        is(23, x.forget(23), "forget(23)");
        is(-9, x.arrive(0, 0, 100, 1), "arrive, as the number is kept");
        x.undo();
        is(7, x.undo() + 1, "undo() of the last");
        is(23, x.arrive(1, 1, 7, 7), "arrive in its place");
        is(7, x.ofArrival(23, 2), "ofArrival(23, 2)");
    }

    private void leastAndMost() {
        about("an ARRIVAL is of a minute (0 to 9999) and a STRENGTH (1 to 999)");
        Quakebook x = standing(1, 0);
        int[][] taken = {{0, 1}, {0, 999}, {9999, 1}, {9999, 999}};
        for (int k = 0; k < 4; k++) {
            is(k, x.arrive(0, k % 2, taken[k][0], taken[k][1]), "arrive");
            is(0, x.ofArrival(k, 0), "ofArrival(.., 0)");
            is(k % 2, x.ofArrival(k, 1), "ofArrival(.., 1)");
            is(taken[k][0], x.ofArrival(k, 2), "ofArrival(.., 2)");
            is(taken[k][1], x.ofArrival(k, 3), "ofArrival(.., 3)");
        }
        argument(x, () -> x.arrive(0, 0, -1, 1), "arrive(0, 0, -1, 1)");
        argument(x, () -> x.arrive(0, 0, 10000, 1), "arrive(0, 0, 10000, 1)");
        argument(x, () -> x.arrive(0, 0, 0, 0), "arrive(0, 0, 0, 0)");
        argument(x, () -> x.arrive(0, 0, 0, 1000), "arrive(0, 0, 0, 1000)");
        index(x, () -> x.arrive(0, 2, -1, 0), "arrive(0, 2, -1, 0)");
        index(x, () -> x.arrive(1, 0, -1, 0), "arrive(1, 0, -1, 0)");
        is(4, x.count(2), "count(2)");
    }

    private void hours() {
        about("HOUR: its minute less the OFFSET, also ahead of 0 and behind 9999");
        Quakebook x = standing(1, 0);
        x.arrive(0, 0, 0, 1);
        x.arrive(0, 0, 9999, 1);
        x.offset(0, 99);
        is(-99, x.ofArrival(0, 4), "ofArrival(0, 4)");
        is(9900, x.ofArrival(1, 4), "ofArrival(1, 4)");
        is(-99, x.bestMinute(1), "bestMinute(1)");
        x.offset(0, -99);
        is(99, x.ofArrival(0, 4), "ofArrival(0, 4)");
        is(10098, x.ofArrival(1, 4), "ofArrival(1, 4)");
        is(10098, x.bestMinute(2), "bestMinute(2)");
        is(0, x.ofArrival(0, 2), "ofArrival(0, 2)");
    }

    private void misfits() {
        about("MISFIT: how much its HOUR and the minute with the TIME differ, earlier or later");
        int[][] looks = {{100, -1}, {102, -1}, {103, 3}, {105, 1}, {106, 0}, {107, 1}, {109, 3}, {110, -1}};
        for (int[] look : looks) {
            Quakebook x = standing(1, 0);
            x.tell(1, 100, 0, 0);
            x.arrive(0, 0, look[0], 1);
            is(look[1], x.ofArrival(0, 6), "ofArrival(0, 6) of " + look[0]);
            is(look[1] == -1 ? -1 : 0, x.ofArrival(0, 5), "ofArrival(0, 5) of " + look[0]);
            is(look[1] == -1 ? 1 : 0, x.count(3), "count(3) of " + look[0]);
        }
    }

    private void noOnes() {
        about("without such a TIME the cell is no one's for that ARRIVAL");
        Quakebook x = standing(1, 0);
        x.station(95);
        x.arrive(0, 0, 100, 1);
        x.arrive(1, 0, 100, 1);
        x.wall(1, true);
        x.wall(12, true);
        is("0", x.possible(1), "possible(1)");
        is(94 - 1, x.possible(2).split(" ").length, "cells of possible(2)");
        is("", x.possible(3), "possible(3)");
        is(0, x.bestCell(1), "bestCell(1)");
        is(2, x.bestCell(2), "bestCell(2)");
        is(-1, x.bestCell(3), "bestCell(3)");
        x.tell(0, 100, 0, 0);
        x.tell(95, 100, 0, 0);
        x.tell(1, 100, 0, 0);
        is(1, x.putTo(0), "putTo(0)");
        is(2, x.putTo(1), "putTo(1)");
        is(0, x.putTo(2), "putTo(2)");
        is(true, x.isSound(), "isSound()");
    }

    private void forgetAll() {
        about("one that is FORGOTTEN keeps its number, but is neither put to a SHOCK nor left");
        Quakebook x = standing(1, 0);
        x.tell(0, 100, 0, 0);
        for (int k = 0; k < 24; k++) {
            x.arrive(0, k % 2, 100 + k, 1);
        }
        for (int k = 0; k < 24; k++) {
            is(23 - k, x.forget(k), "forget(" + k + ")");
            is(-9, x.forget(k), "forget(" + k + ") again");
            is(23 - k, x.count(1), "count(1)");
        }
        is(24, x.count(2), "count(2)");
        is(0, x.count(3), "count(3)");
        is(0, x.putTo(-1), "putTo(-1)");
        is(0, x.putTo(0), "putTo(0)");
        is("-", x.size(0), "size(0)");
        is(-9, x.arrive(0, 0, 1, 1), "arrive");
        is(0, x.gather(2), "gather(2)");
        argument(x, () -> x.bestCell(1), "bestCell(1)");
        argument(x, () -> x.bad(1 << 23), "bad(1 << 23)");
        index(x, () -> x.forget(24), "forget(24)");
        index(x, () -> x.forget(-1), "forget(-1)");
    }

    private void forgottenKeeps() {
        about("ofArrival() of one that is FORGOTTEN");
        Quakebook x = standing(2, 0);
        x.offset(1, -9);
        x.tell(0, 509, 0, 0);
        x.arrive(1, 1, 500, 77);
        is(0, x.ofArrival(0, 5), "ofArrival(0, 5)");
        is(0, x.forget(0), "forget(0)");
        int[] due = {1, 1, 500, 77, 509, -1, -1, 1};
        for (int what = 0; what < 8; what++) {
            is(due[what], x.ofArrival(0, what), "ofArrival(0, " + what + ")");
        }
        x.offset(1, 0);
        is(500, x.ofArrival(0, 4), "ofArrival(0, 4)");
        is("-", x.made(1), "made(1)");
        x.undo();
        x.undo();
        is(0, x.ofArrival(0, 5), "ofArrival(0, 5) behind undo()");
        is(0, x.ofArrival(0, 7), "ofArrival(0, 7) behind undo()");
    }

    private void bestOfOne() {
        about("BEST of a set of one ARRIVAL");
        Quakebook x = standing(1, 95);
        x.arrive(0, 0, 0, 1);
        is(0, x.bestCell(1), "bestCell(1)");
        is(-108, x.bestMinute(1), "bestMinute(1)");
        is(0, x.misfit(1), "misfit(1)");
        x.wall(0, true);
        is(1, x.bestCell(1), "bestCell(1) with a wall");
        is(-102, x.bestMinute(1), "bestMinute(1) with a wall");
    }

    private void bestMiddle() {
        about("BEST: of several the smallest minute");
        Quakebook x = standing(1, 0);
        x.wall(1, true);
        x.wall(12, true);
        int[] minutes = {110, 100, 104, 106};
        for (int minute : minutes) {
            x.arrive(0, 0, minute, 1);
        }
        int[][] looks = {{3, 100, 10}, {15, 104, 12}, {11, 106, 10}, {14, 104, 6}, {9, 106, 4}, {2, 100, 0}};
        for (int[] look : looks) {
            is(look[1], x.bestMinute(look[0]), "bestMinute(" + look[0] + ")");
            is(look[2], x.misfit(look[0]), "misfit(" + look[0] + ")");
        }
    }

    private void bestCellAhead() {
        about("BEST: of several the smallest cell, then the smallest minute");
        // The further cell has the smaller minute, with the same sum.
        Quakebook x = standing(2, 0);
        x.arrive(0, 0, 200, 1);
        x.arrive(1, 0, 202, 1);
        is(0, x.bestCell(3), "bestCell(3)");
        is(200, x.bestMinute(3), "bestMinute(3)");
        is(2, x.misfit(3), "misfit(3)");
    }

    private void bestSumAhead() {
        about("BEST: those with the least sum of MISFITS");
        // 108 nearer to the second STATION: just its own cell gives no MISFIT.
        Quakebook x = standing(1, 0);
        x.station(95);
        x.arrive(0, 0, 308, 1);
        x.arrive(1, 0, 200, 1);
        is(95, x.bestCell(3), "bestCell(3)");
        is(200, x.bestMinute(3), "bestMinute(3)");
        is(0, x.misfit(3), "misfit(3)");
        // One more apart: no cell gives less than 1.
        x.arrive(0, 0, 309, 1);
        is(95, x.bestCell(6), "bestCell(6)");
        is(200, x.bestMinute(6), "bestMinute(6)");
        is(1, x.misfit(6), "misfit(6)");
    }

    private void noBest() {
        about("BEST: NONE without such a cell");
        Quakebook x = standing(1, 0);
        x.station(95);
        x.arrive(0, 0, 100, 1);
        x.arrive(1, 1, 100, 1);
        x.wall(95, true);
        is(-1, x.bestCell(2), "bestCell(2)");
        is(-1, x.bestCell(3), "bestCell(3)");
        is(0, x.bestCell(1), "bestCell(1)");
        state(x, () -> x.bestMinute(3), "bestMinute(3)");
        state(x, () -> x.bestMinute(2), "bestMinute(2)");
        state(x, () -> x.misfit(2), "misfit(2)");
        argument(x, () -> x.bestMinute(4), "bestMinute(4)");
        argument(x, () -> x.misfit(6), "misfit(6)");
        argument(x, () -> x.misfit(0), "misfit(0)");
        is(100, x.bestMinute(1), "bestMinute(1)");
        x.wall(95, false);
        // 11 STEPS of 6 from the one, 7 STEPS of 10 from the other.
        is(11, x.bestCell(3), "bestCell(3) without the wall");
        is(4, x.misfit(3), "misfit(3) without the wall");
    }

    private void possibleBySlip() {
        about("POSSIBLE: a minute, so that no MISFIT is above the SLIP");
        for (int slip = 0; slip < 10; slip++) {
            Quakebook x = standing(1, 0);
            x.wall(1, true);
            x.wall(12, true);
            x.slip(slip);
            x.arrive(0, 0, 100, 1);
            x.arrive(0, 0, 100 + 2 * slip, 1);
            x.arrive(0, 0, 101 + 2 * slip, 1);
            is("0", x.possible(1), "possible(1)");
            is("0", x.possible(3), "possible(3), 2 * SLIP apart");
            is("", x.possible(5), "possible(5), one more apart");
            is(slip == 0 ? "" : "0", x.possible(6), "possible(6), one apart");
            is("", x.possible(7), "possible(7)");
            is(0, x.bad(3), "bad(3)");
            is(5, x.bad(5), "bad(5)");
        }
    }

    private void possibleWithWalls() {
        about("possible(): all cells, rising; \"\" without any");
        Quakebook x = standing(1, 0);
        x.arrive(0, 0, 100, 1);
        String all = x.possible(1);
        is(96, all.split(" ").length, "cells of possible(1)");
        is(true, all.startsWith("0 1 2 3 ") && all.endsWith(" 94 95"), "possible(1) goes from 0 to 95, which");
        x.wall(0, true);
        is("", x.possible(1), "possible(1) with the station in a wall");
        x.wall(0, false);
        x.wall(1, true);
        x.wall(13, true);
        x.wall(24, true);
        is("0 12", x.possible(1), "possible(1) of one shut in");
    }

    private void badNone() {
        about("bad(): 0 if a cell is POSSIBLE for it");
        Quakebook x = standing(1, 0);
        x.arrive(0, 0, 100, 1);
        x.arrive(0, 0, 106, 1);
        x.arrive(0, 0, 107, 1);
        is(0, x.bad(1), "bad(1)");
        is(0, x.bad(3), "bad(3)");
        is(0, x.bad(6), "bad(6)");
        is(5, x.bad(5), "bad(5)");
        is(5, x.bad(7), "bad(7)");
    }

    private void badOrder() {
        about("BAD: from the greatest number on each one is taken away, if without it still none is");
        Quakebook x = standing(1, 0);
        int[] minutes = {100, 200, 101, 201, 300};
        for (int minute : minutes) {
            x.arrive(0, 0, minute, 1);
        }
        is(3, x.bad(31), "bad(31)");
        is(6, x.bad(30), "bad(30)");
        is(12, x.bad(28), "bad(28)");
        is(0, x.bad(10), "bad(10)");
        is(9, x.bad(13), "bad(13)");
        is(24, x.bad(24), "bad(24)");
        // For none at all each cell is POSSIBLE: one that could come from nowhere stays alone.
        x.wall(0, true);
        is(1, x.bad(31), "bad(31) in a wall");
        is(16, x.bad(16), "bad(16) in a wall");
        // One from nowhere and two that do not go together: the one alone is BAD.
        Quakebook y = standing(1, 0);
        y.station(95);
        y.arrive(1, 0, 100, 1);
        y.arrive(0, 0, 100, 1);
        y.arrive(1, 0, 200, 1);
        y.wall(0, true);
        is(2, y.bad(7), "bad(7)");
        is(5, y.bad(5), "bad(5)");
        is(2, y.bad(3), "bad(3)");
    }

    private void badOfAll() {
        about("a set of all ARRIVALS that there can be");
        Quakebook x = standing(6, 0);
        for (int k = 0; k < 24; k++) {
            x.arrive(k % 6, k / 12, k == 11 ? 9999 : 0, 999);
        }
        int all = (1 << 24) - 1;
        is(1 | 1 << 11, x.bad(all), "bad() of all");
        is("", x.possible(all), "possible() of all");
        is(0, x.bestCell(all), "bestCell() of all");
        is(0, x.bestMinute(all), "bestMinute() of all");
        is(9999, x.misfit(all), "misfit() of all");
        is(0, x.bad(all - (1 << 11)), "bad() of all but one");
        argument(x, () -> x.bad(1 << 24), "bad(1 << 24)");
        argument(x, () -> x.possible(all + 1), "possible() of one that is not there");
        argument(x, () -> x.bestCell(-1), "bestCell(-1)");
        x.forget(0);
        argument(x, () -> x.bestCell(all), "bestCell() with one that is FORGOTTEN");
        is(1 << 1 | 1 << 11, x.bad(all - 1), "bad() of all but that");
    }

    private void putToNone() {
        about("putTo(): a SHOCK, or NONE: those that are left");
        Quakebook x = standing(2, 0);
        is(0, x.putTo(-1), "putTo(-1) without any");
        index(x, () -> x.putTo(0), "putTo(0) without any");
        x.tell(0, 100, 0, 0);
        is(0, x.putTo(0), "putTo(0)");
        x.arrive(0, 0, 100, 1);
        x.arrive(0, 0, 200, 1);
        x.arrive(1, 1, 103, 1);
        x.arrive(1, 0, 104, 1);
        x.forget(1);
        is(5, x.putTo(0), "putTo(0)");
        is(8, x.putTo(-1), "putTo(-1)");
        index(x, () -> x.putTo(1), "putTo(1)");
        index(x, () -> x.putTo(-2), "putTo(-2)");
        x.drop(0);
        is(13, x.putTo(-1), "putTo(-1) without it");
        index(x, () -> x.putTo(0), "putTo(0) without it");
    }
}
