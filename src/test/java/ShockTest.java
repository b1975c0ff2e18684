/** The boundary cases of the document's section 3: SHOCKS, SIZES, what FITS, TIDYING and GATHERING. */
public final class ShockTest extends Looks {
    public static void main(String[] args) {
        ShockTest t = new ShockTest();
        t.noShocks();
        t.tenShocks();
        t.toldLeastAndMost();
        t.bottomNotLookedAt();
        t.movedUp();
        t.dropped();
        t.fitsBySlip();
        t.sizes();
        t.greatestSize();
        t.sumsOfMisfits();
        t.firstThatFits();
        t.oneOfAKind();
        t.staysWhereItFits();
        t.takenThenPut();
        t.tidiedByAllChanges();
        t.takenByAllChanges();
        t.gatheredLeast();
        t.gatheredOfNone();
        t.gatheredTillTen();
        t.gatheredWithSome();
        t.gatheredAgain();
        t.gatheredMost();
        t.gatheredSum();
        t.gatheredCell();
        t.gatheredMinute();
        t.gatheredNearest();
        t.gatheredFirst();
        t.gatheredBySlip();
        t.gatheredFarOut();
        t.end();
    }

    private void noShocks() {
        about("without any SHOCK");
        Quakebook x = new Quakebook();
        is(0, x.count(4), "count(4)");
        index(x, () -> x.drop(0), "drop(0)");
        index(x, () -> x.size(0), "size(0)");
        index(x, () -> x.ofShock(0, 0), "ofShock(0, 0)");
        index(x, () -> x.putTo(0), "putTo(0)");
        index(x, () -> x.ofCluster(0, 0, 0, 0), "ofCluster(0, 0, 0, 0)");
        is("", x.book(), "book()");
        is("", x.alerts(), "alerts()");
        is("", x.clusters(0, 0), "clusters(0, 0)");
        is("-", x.slope(0, 1), "slope(0, 1)");
        is("0", x.rate(0, 1), "rate(0, 1)");
        is("0", x.forecast(0, 1, 9999), "forecast(0, 1, 9999)");
        is(0, x.merge(18, 9999), "merge(18, 9999)");
        is(true, x.isSound(), "isSound()");
    }

    private void tenShocks() {
        about("at most 10 SHOCKS, numbered from 0");
        Quakebook x = new Quakebook();
        for (int k = 0; k < 10; k++) {
            is(k, x.count(4), "count(4)");
            is(k, x.tell(k, 100 * k, 1, 1), "tell");
        }
        String before = Books.told(x);
        is(-9, x.tell(0, 0, 0, 0), "tell for the eleventh time");
        is(-9, x.tell(0, 0, 0, LOW), "tell(0, 0, 0, LOW) with ten");
        index(x, () -> x.tell(96, 0, 0, 0), "tell(96, 0, 0, 0) with ten");
        argument(x, () -> x.tell(0, 10000, 0, 0), "tell(0, 10000, 0, 0) with ten");
        argument(x, () -> x.tell(0, 0, 10000, 1), "tell(0, 0, 10000, 1) with ten");
        argument(x, () -> x.tell(0, 0, 1, 0), "tell(0, 0, 1, 0) with ten");
        is(before, Books.told(x), "what is told behind them");
        is(9, x.ofShock(9, 0), "ofShock(9, 0)");
        index(x, () -> x.ofShock(10, 0), "ofShock(10, 0)");
        index(x, () -> x.size(10), "size(10)");
        index(x, () -> x.drop(10), "drop(10)");
        is(9, x.drop(9), "drop(9)");
        is(9, x.tell(95, 1, 0, 0), "tell in its place");
        x.undo();
        x.undo();
        is(9, x.ofShock(9, 0), "ofShock(9, 0) behind undo()");
        is(-9, x.tell(0, 0, 0, 0), "tell behind undo()");
    }

    private void toldLeastAndMost() {
        about("tell(): minute 0 to 9999, top 0 to 9999, bottom 1 to 999");
        Quakebook x = new Quakebook();
        is(0, x.tell(0, 0, 1, 1), "tell(0, 0, 1, 1)");
        is(1, x.tell(95, 9999, 9999, 999), "tell(95, 9999, 9999, 999)");
        is(2, x.tell(95, 0, 9999, 1), "tell(95, 0, 9999, 1)");
        is(3, x.tell(0, 9999, 1, 999), "tell(0, 9999, 1, 999)");
        String[] due = {"1", "1111/111", "9999", "1/999"};
        for (int k = 0; k < 4; k++) {
            is(due[k], x.size(k), "size(" + k + ")");
            is(1, x.ofShock(k, 2), "ofShock(" + k + ", 2)");
        }
        is(9999, x.ofShock(1, 1), "ofShock(1, 1)");
        int[][] wrong = {{0, -1, 1, 1}, {0, 10000, 1, 1}, {0, 0, -1, 1}, {0, 0, 10000, 1}, {0, 0, 1, 0},
            {0, 0, 1, 1000}, {0, 0, 9999, -1}, {0, -1, 0, 0}, {0, 0, LOW, 1}, {0, 0, 1, HIGH}};
        for (int[] w : wrong) {
            argument(x, () -> x.tell(w[0], w[1], w[2], w[3]), "tell(0, " + w[1] + ", " + w[2] + ", " + w[3] + ")");
        }
        index(x, () -> x.tell(-1, -1, -1, 0), "tell(-1, -1, -1, 0)");
        index(x, () -> x.tell(96, 10000, 1, 0), "tell(96, 10000, 1, 0)");
    }

    private void bottomNotLookedAt() {
        about("tell(): top 0: none is told; the bottom is not looked at with 0");
        Quakebook x = new Quakebook();
        int[] bottoms = {0, 1, -1, 999, 1000, LOW, HIGH};
        for (int k = 0; k < bottoms.length; k++) {
            is(k, x.tell(0, 0, 0, bottoms[k]), "tell(0, 0, 0, " + bottoms[k] + ")");
            is("-", x.size(k), "size(" + k + ")");
            is(0, x.ofShock(k, 2), "ofShock(" + k + ", 2)");
        }
        is("-", x.slope(0, 1), "slope(0, 1)");
        is(0, x.ofCluster(6, 0, 0, 1), "ofCluster(6, 0, 0, 1)");
    }

    private void movedUp() {
        about("if one is gone, those behind it move up");
        Quakebook x = standing(4, 0);
        for (int k = 0; k < 4; k++) {
            x.tell(k, 1000 * k, k, 1 + k % 2);
            x.arrive(k, 0, 1000 * k + 6 * k, 1 + k);
        }
        is(3, x.drop(1), "drop(1)");
        is("0@0:0 1@2:2000 2@3:3000", x.book(), "book()");
        is("1", x.size(0), "size(0)");
        is("2", x.size(1), "size(1)");
        is("3/2", x.size(2), "size(2)");
        int[] due = {0, -1, 1, 2};
        for (int k = 0; k < 4; k++) {
            is(due[k], x.ofArrival(k, 5), "ofArrival(" + k + ", 5)");
        }
        is(2, x.drop(2), "drop(2) of the last");
        is(1, x.drop(0), "drop(0) of the first");
        is("0@2:2000", x.book(), "book()");
        is(4, x.putTo(0), "putTo(0)");
        is(11, x.putTo(-1), "putTo(-1)");
        is(0, x.drop(0), "drop(0) of the only one");
        is(15, x.putTo(-1), "putTo(-1)");
    }

    private void dropped() {
        about("drop(): the first and the last there is");
        Quakebook x = new Quakebook();
        x.tell(1, 1, 1, 1);
        x.tell(2, 2, 1, 1);
        index(x, () -> x.drop(2), "drop(2)");
        index(x, () -> x.drop(-1), "drop(-1)");
        index(x, () -> x.drop(LOW), "drop(LOW)");
        is(1, x.drop(1), "drop(1)");
        index(x, () -> x.drop(1), "drop(1) again");
        is("0@1:1", x.book(), "book()");
    }

    private void fitsBySlip() {
        about("an ARRIVAL FITS a SHOCK, if its MISFIT is at most the SLIP");
        for (int slip = 0; slip < 10; slip++) {
            for (int off = -slip - 1; off <= slip + 1; off++) {
                Quakebook x = standing(1, 0);
                x.slip(slip);
                x.tell(0, 500, 0, 0);
                x.arrive(0, 1, 500 + off, 1);
                boolean isFitting = off >= -slip && off <= slip;
                is(isFitting ? 1 : 0, x.putTo(0), "putTo(0) with a SLIP of " + slip + ", " + off + " off");
                is(isFitting ? Math.abs(off) : -1, x.ofArrival(0, 6), "ofArrival(0, 6)");
            }
        }
    }

    private void sizes() {
        about("SIZE: the told one; otherwise STRENGTH * (1 + TIME) by how many; not determined without any");
        Quakebook x = standing(2, 0);
        x.tell(0, 100, 0, 0);
        is("-", x.size(0), "size(0) without any");
        x.arrive(0, 0, 100, 999);
        is("999", x.size(0), "size(0) of one without a STEP");
        x.arrive(1, 0, 100, 1);
        is("500", x.size(0), "size(0) of two");
        x.arrive(1, 1, 100, 1);
        is("1001/3", x.size(0), "size(0) of three");
        x.forget(0);
        is("1", x.size(0), "size(0) of two again");
        x.tell(0, 300, 7, 2);
        x.arrive(0, 0, 300, 999);
        is(8, x.putTo(1), "putTo(1)");
        is("7/2", x.size(1), "size(1), which is told");
        x.drop(0);
        is("7/2", x.size(0), "size(0), which has moved up");
    }

    private void greatestSize() {
        about("SIZE: of the greatest STRENGTH through the longest way");
        Quakebook x = GroundTest.snake();
        x.station(84);
        x.tell(0, 0, 0, 0);
        x.arrive(0, 0, 51 * 18, 999);
        is("" + 999 * (1 + 51 * 18), x.size(0), "size(0)");
        x.arrive(0, 1, 51 * 10, 998);
        is("" + (999 * 919 + 998 * 511) + "/2", x.size(0), "size(0) of two");
        x.rule(9999, 1, 0, 0);
        is("0", x.alerts(), "alerts()");
        is("2/" + (999 * 919 + 998 * 511 - 2 * 9999), x.slope(9999, 1), "slope(9999, 1)");
    }

    private void sumsOfMisfits() {
        about("ofShock(): how many ARRIVALS are put to it, the sum of their MISFITS");
        Quakebook x = standing(2, 0);
        x.tell(0, 100, 0, 0);
        is(0, x.ofShock(0, 3), "ofShock(0, 3) without any");
        is(0, x.ofShock(0, 4), "ofShock(0, 4) without any");
        x.arrive(0, 0, 97, 1);
        x.arrive(0, 1, 103, 1);
        x.arrive(1, 0, 100, 1);
        x.arrive(1, 1, 104, 1);
        is(3, x.ofShock(0, 3), "ofShock(0, 3)");
        is(6, x.ofShock(0, 4), "ofShock(0, 4)");
        argument(x, () -> x.ofShock(0, 6), "ofShock(0, 6)");
        argument(x, () -> x.ofShock(0, -1), "ofShock(0, -1)");
        index(x, () -> x.ofShock(1, 6), "ofShock(1, 6)");
        index(x, () -> x.ofShock(-1, -1), "ofShock(-1, -1)");
    }

    private void firstThatFits() {
        about("TIDYING: put to the first SHOCK that it FITS, not to the nearest");
        Quakebook x = standing(1, 0);
        x.tell(0, 103, 0, 0);
        x.tell(0, 100, 0, 0);
        x.arrive(0, 0, 100, 1);
        is(1, x.putTo(0), "putTo(0)");
        is(3, x.ofArrival(0, 6), "ofArrival(0, 6)");
        is(0, x.putTo(1), "putTo(1)");
    }

    private void oneOfAKind() {
        about("TIDYING: to which no other one of the same STATION and WAVE is put");
        Quakebook x = standing(2, 0);
        x.tell(0, 100, 0, 0);
        x.arrive(0, 0, 103, 1);
        x.arrive(0, 0, 100, 1);
        x.arrive(0, 1, 100, 1);
        x.arrive(1, 0, 100, 1);
        x.arrive(1, 1, 100, 1);
        x.arrive(1, 1, 101, 1);
        is(1 + 4 + 8 + 16, x.putTo(0), "putTo(0)");
        is(2 + 32, x.putTo(-1), "putTo(-1)");
        x.tell(0, 101, 0, 0);
        is(2 + 32, x.putTo(1), "putTo(1)");
    }

    private void staysWhereItFits() {
        about("TIDYING: only one that does not FIT, or whose SHOCK is gone, is taken from it");
        Quakebook x = standing(1, 0);
        x.slip(2);
        x.tell(0, 100, 0, 0);
        x.tell(0, 104, 0, 0);
        x.arrive(0, 0, 105, 1);
        is(1, x.putTo(1), "putTo(1)");
        x.slip(9);
        // It FITS the first one too now, but also where it is.
        is(1, x.putTo(1), "putTo(1) with a greater SLIP");
        x.slip(0);
        is(1, x.putTo(-1), "putTo(-1) without a SLIP");
        x.slip(9);
        is(1, x.putTo(0), "putTo(0) with a greater SLIP again");
        is(5, x.ofArrival(0, 6), "ofArrival(0, 6)");
    }

    private void takenThenPut() {
        about("TIDYING: first each is taken that does not FIT, then, ARRIVAL by ARRIVAL, those that are left are put");
        // The second has the place till it FITS no more, by the same CHANGE by which the first FITS.
        Quakebook x = standing(1, 0);
        x.slip(0);
        x.tell(0, 100, 0, 0);
        x.arrive(0, 0, 95, 1);
        x.arrive(0, 0, 100, 1);
        x.arrive(0, 0, 95, 1);
        is(2, x.putTo(0), "putTo(0)");
        x.offset(0, -5);
        is(1, x.putTo(0), "putTo(0) with an OFFSET");
        is(6, x.putTo(-1), "putTo(-1)");
        // Both go over to others in one TIDYING.
        x.tell(0, 105, 0, 0);
        is(2, x.putTo(1), "putTo(1)");
        x.offset(0, 0);
        is(2, x.putTo(0), "putTo(0) without an OFFSET");
        is(0, x.putTo(1), "putTo(1) without an OFFSET");
    }

    /** A CHANGE each by which one ARRIVAL FITS. */
    private void tidiedByAllChanges() {
        about("TIDYING, behind each CHANGE: one that FITS now is put");
        for (int k = 0; k < 7; k++) {
            Quakebook x = standing(1, 0);
            x.tell(95, 5000, 0, 0);
            x.wall(12, true);
            x.wall(1, k == 0);
            int[] minutes = {106, 112, 112, 110, 110, 106, 106};
            if (k != 5) {
                x.tell(1, 100, 0, 0);
            }
            if (k != 6) {
                x.arrive(0, 0, minutes[k], 1);
                is(1, x.putTo(-1), "putTo(-1) ahead of the change " + k);
            }
            Call[] changes = {() -> x.wall(1, false), () -> x.slow(1, 0, 9), () -> x.layer(0, 0, 6),
                () -> x.offset(0, 4), () -> x.slip(4), () -> x.tell(1, 100, 0, 0), () -> x.arrive(0, 0, 106, 1)};
            changes[k].go();
            is(1, x.putTo(1), "putTo(1) behind the change " + k);
        }
    }

    /** A CHANGE each by which one ARRIVAL FITS no more. */
    private void takenByAllChanges() {
        about("TIDYING, behind each CHANGE: one whose SHOCK is gone, or that FITS no more, is taken");
        for (int k = 0; k < 8; k++) {
            Quakebook x = standing(1, 0);
            x.slip(1);
            x.tell(1, 100, 0, 0);
            x.tell(2, 100, 9, 1);
            x.arrive(0, 0, 106, 1);
            is(1, x.putTo(0), "putTo(0) ahead of the change " + k);
            Call[] changes = {() -> x.slow(1, 0, 5), () -> x.layer(0, 0, 2), () -> x.wall(1, true),
                () -> x.offset(0, 2), () -> x.wall(0, true), () -> x.drop(0), () -> x.merge(1, 0), () -> x.forget(0)};
            changes[k].go();
            is(0, x.putTo(0), "putTo(0) behind the change " + k);
            is(-1, x.ofArrival(0, 5), "ofArrival(0, 5) behind the change " + k);
            is(k == 7 ? 0 : 1, x.putTo(-1), "putTo(-1) behind the change " + k);
        }
    }

    /** So many ARRIVALS of different STATIONS and WAVES that come from one place at one minute, and one more. */
    private static Quakebook heard(int many) {
        Quakebook x = standing(6, 0);
        x.wall(1, true);
        x.wall(12, true);
        for (int k = 0; k < many; k++) {
            x.arrive(k % 6, k / 6, 500, 1);
        }
        x.arrive(0, 0, 900, 1);
        return x;
    }

    private void gatheredLeast() {
        about("gather(): the least number is 2 to 8; if these are at least so many, it becomes a SHOCK");
        for (int least = 2; least <= 8; least++) {
            Quakebook few = heard(least - 1);
            is(0, few.gather(least), "gather(" + least + ") of one less");
            is("", few.book(), "book()");
            Quakebook enough = heard(least);
            is(1, enough.gather(least), "gather(" + least + ") of so many");
            is("0@0:500", enough.book(), "book()");
            is((1 << least) - 1, enough.putTo(0), "putTo(0)");
            is(1 << least, enough.putTo(-1), "putTo(-1)");
            is(0, enough.ofShock(0, 2), "ofShock(0, 2)");
            is("1", enough.size(0), "size(0)");
        }
        Quakebook all = heard(12);
        argument(all, () -> all.gather(1), "gather(1)");
        argument(all, () -> all.gather(0), "gather(0)");
        argument(all, () -> all.gather(-2), "gather(-2)");
        argument(all, () -> all.gather(9), "gather(9)");
        is(1, all.gather(8), "gather(8) of 12");
        is(4095, all.putTo(0), "putTo(0) of 12");
    }

    private void gatheredOfNone() {
        about("gather() without any that are left");
        Quakebook x = new Quakebook();
        is(0, x.gather(2), "gather(2)");
        is(1, x.count(6), "count(6)");
        x.station(0);
        x.arrive(0, 0, 100, 1);
        is(0, x.gather(2), "gather(2) with one");
        x.tell(0, 100, 0, 0);
        is(0, x.gather(2), "gather(2) with one that is put");
        x.arrive(0, 0, 100, 1);
        x.arrive(0, 0, 100, 1);
        is(0, x.gather(2), "gather(2) with two of one STATION and WAVE");
        x.arrive(0, 1, 800, 1);
        x.wall(0, true);
        is(0, x.gather(2), "gather(2) in a wall");
        is(1, x.count(4), "count(4)");
    }

    private void gatheredTillTen() {
        about("GATHER: again and again, till they are fewer, or there are 10 SHOCKS");
        Quakebook x = standing(2, 0);
        for (int k = 0; k < 24; k++) {
            x.arrive(k % 2, 0, 100 + 100 * (k / 2), 1);
        }
        is(10, x.gather(2), "gather(2)");
        is(10, x.count(4), "count(4)");
        is(15 << 20, x.putTo(-1), "putTo(-1)");
        is(0, x.gather(2), "gather(2) with ten");
        is(8, x.count(6), "count(6)");
        is(9, x.drop(3), "drop(3)");
        is(1, x.gather(2), "gather(2) with nine");
        // The eleventh pair comes ahead of the one whose SHOCK is gone? No: the sum is the same, so the smaller minute.
        is("9@0:400", x.book().split(" ")[3], "the place in the book");
        is(3 << 6, x.putTo(9), "putTo(9)");
        is(0, x.gather(8), "gather(8) with ten");
    }

    private void gatheredWithSome() {
        about("GATHER: till there are 10 SHOCKS, with some that are there");
        for (int there = 7; there <= 10; there++) {
            Quakebook x = standing(2, 0);
            for (int k = 0; k < there; k++) {
                x.tell(95, k, 1, 1);
            }
            for (int k = 0; k < 6; k++) {
                x.arrive(k % 2, 0, 1000 + 100 * (k / 2), 1);
            }
            is(10 - there, x.gather(2), "gather(2) with " + there);
            is(10, x.count(4), "count(4)");
            is(6 - 2 * (10 - there), x.count(3), "count(3)");
        }
    }

    private void gatheredAgain() {
        about("GATHER: this again and again, till they are fewer");
        Quakebook x = standing(4, 0);
        int[] minutes = {1000, 1000, 2000, 2000, 2000, 3000, 3000, 3000, 3000, 4000, 4000, 4000};
        int[] stations = {0, 1, 0, 1, 2, 0, 1, 2, 3, 1, 2, 3};
        for (int k = 0; k < minutes.length; k++) {
            x.arrive(stations[k], 0, minutes[k], 1);
        }
        is(3, x.gather(3), "gather(3)");
        is("1@0:2000 0@0:3000 2@0:4000", x.book(), "book()");
        is(3, x.putTo(-1), "putTo(-1)");
        is(1, x.gather(2), "gather(2)");
        is("3@0:1000", x.book().split(" ")[0], "the first of the book");
        is(0, x.putTo(-1), "putTo(-1)");
    }

    private void gatheredMost() {
        about("GATHER: that for which the most are counted, though others have no MISFIT");
        Quakebook x = standing(5, 0);
        int[] minutes = {500, 500, 700, 703, 706};
        for (int k = 0; k < 5; k++) {
            x.arrive(k, 0, minutes[k], 1);
        }
        is(1, x.gather(3), "gather(3)");
        is("0@0:703", x.book(), "book()");
        is(28, x.putTo(0), "putTo(0)");
        is(6, x.ofShock(0, 4), "ofShock(0, 4)");
    }

    private void gatheredSum() {
        about("GATHER: of several that with the least sum of MISFITS, though in a greater cell and later");
        // 60 apart, and 10 STEPS between: only the cell of the second has no MISFIT.
        Quakebook x = standing(1, 0);
        x.station(10);
        x.arrive(0, 0, 160, 1);
        x.arrive(1, 0, 100, 1);
        is(1, x.gather(2), "gather(2)");
        is("0@10:100", x.book(), "book()");
        Quakebook y = standing(4, 0);
        int[] minutes = {100, 101, 500, 500};
        for (int k = 0; k < 4; k++) {
            y.arrive(k, 0, minutes[k], 1);
        }
        y.gather(2);
        is("1@0:100 0@0:500", y.book(), "book()");
    }

    private void gatheredCell() {
        about("GATHER: then the smallest cell, though a greater one has a smaller minute");
        Quakebook x = standing(2, 0);
        x.arrive(0, 0, 700, 1);
        x.arrive(1, 0, 700, 1);
        is(1, x.gather(2), "gather(2)");
        is("0@0:700", x.book(), "book()");
    }

    private void gatheredMinute() {
        about("GATHER: then the smallest minute");
        Quakebook x = heard(0);
        x.arrive(0, 0, 503, 1);
        x.arrive(1, 0, 500, 1);
        is(1, x.gather(2), "gather(2)");
        is("0@0:500", x.book(), "book()");
        x.undo();
        x.slip(2);
        is(1, x.gather(2), "gather(2) with a SLIP of 2");
        is("0@0:501", x.book(), "book()");
    }

    private void gatheredNearest() {
        about("GATHER: of each STATION and WAVE only the one with the least MISFIT counted");
        Quakebook x = heard(0);
        x.arrive(1, 0, 497, 1);
        x.arrive(1, 0, 501, 1);
        x.arrive(1, 0, 503, 1);
        x.arrive(2, 0, 500, 1);
        x.arrive(3, 0, 500, 1);
        is(0, x.gather(4), "gather(4)");
        is(1, x.gather(3), "gather(3)");
        is("0@0:500", x.book(), "book()");
        is(4 + 16 + 32, x.putTo(0), "putTo(0)");
        is(1, x.ofShock(0, 4), "ofShock(0, 4)");
        is(1 + 2 + 8, x.putTo(-1), "putTo(-1)");
    }

    private void gatheredFirst() {
        about("GATHER: of one STATION and WAVE with the same MISFIT the first of these");
        Quakebook x = heard(0);
        x.arrive(1, 0, 502, 1);
        x.arrive(1, 0, 498, 1);
        x.arrive(2, 0, 500, 1);
        x.arrive(3, 0, 500, 1);
        x.arrive(4, 0, 500, 1);
        is(1, x.gather(4), "gather(4)");
        is("0@0:500", x.book(), "book()");
        is(2 + 8 + 16 + 32, x.putTo(0), "putTo(0)");
    }

    private void gatheredBySlip() {
        about("GATHER: a MISFIT of at most the SLIP");
        for (int slip = 0; slip < 10; slip++) {
            Quakebook x = heard(0);
            x.slip(slip);
            x.arrive(1, 0, 500, 1);
            x.arrive(2, 0, 500 + 2 * slip + 1, 1);
            is(0, x.gather(2), "gather(2) with a SLIP of " + slip + ", one more apart");
            x.forget(2);
            x.arrive(3, 0, 500 + 2 * slip, 1);
            is(1, x.gather(2), "gather(2) with a SLIP of " + slip);
            is("0@0:" + (500 + slip), x.book(), "book()");
            is(2 * slip, x.ofShock(0, 4), "ofShock(0, 4)");
        }
    }

    private void gatheredFarOut() {
        about("a minute (any whole number): one that is GATHERED may be ahead of 0, or behind 9999");
        Quakebook x = standing(2, 95);
        x.arrive(0, 0, 0, 1);
        x.arrive(1, 0, 0, 1);
        x.offset(0, 99);
        x.offset(1, 99);
        is(1, x.gather(2), "gather(2)");
        is("0@0:-207", x.book(), "book()");
        is(-207, x.ofShock(0, 1), "ofShock(0, 1)");
        is("1/9999", x.rate(-9999, 0), "rate(-9999, 0)");
        is("1", x.rate(-207, -206), "rate(-207, -206)");
        is("0", x.rate(-206, 9999), "rate(-206, 9999)");
        Quakebook y = heard(0);
        y.arrive(1, 0, 9999, 1);
        y.arrive(2, 0, 9999, 1);
        y.offset(1, -99);
        y.offset(2, -99);
        is(1, y.gather(2), "gather(2)");
        is("0@0:10098", y.book(), "book()");
        is("0", y.rate(-9999, 9999), "rate(-9999, 9999)");
        is("0", y.forecast(9998, 9999, 9999), "forecast(9998, 9999, 9999)");
    }
}
