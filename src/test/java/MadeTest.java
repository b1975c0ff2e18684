/** The boundary cases of the document's section 5: the equations, the SLOWNESSES made out, and what is left. */
public final class MadeTest extends Looks {
    public static void main(String[] args) {
        MadeTest t = new MadeTest();
        t.noEquation();
        t.noStepAlone();
        t.noStepWithOthers();
        t.ofThatWave();
        t.onlyPut();
        t.layersLeftOut();
        t.notDetermined();
        t.allLayers();
        t.endsOfSteps();
        t.fromShockToStation();
        t.leastSquares();
        t.belowZero();
        t.mostEquations();
        t.whatOfMade();
        t.end();
    }

    private void tells(Quakebook x, int wave, String made, String left, int... ofMade) {
        is(made, x.made(wave), "made(" + wave + ")");
        is(left, x.left(wave), "left(" + wave + ")");
        for (int what = 0; what < 3; what++) {
            is(ofMade[what], x.ofMade(wave, what), "ofMade(" + wave + ", " + what + ")");
        }
    }

    private void noEquation() {
        about("not determined, if there is no equation with a LAYER (all of it, then)");
        Quakebook x = standing(1, 0);
        tells(x, 0, "-", "-", 0, 0, 0);
        tells(x, 1, "-", "-", 0, 0, 0);
        x.tell(5, 100, 0, 0);
        x.arrive(0, 0, 5000, 1);
        tells(x, 0, "-", "-", 0, 0, 0);
    }

    private void noStepAlone() {
        about("an equation also without a STEP, in which no LAYER is; not determined without one with a LAYER");
        Quakebook x = standing(2, 30);
        x.tell(30, 100, 0, 0);
        x.arrive(0, 0, 102, 1);
        tells(x, 0, "-", "-", 1, 0, 0);
        x.arrive(1, 0, 99, 1);
        tells(x, 0, "-", "-", 2, 0, 0);
        tells(x, 1, "-", "-", 0, 0, 0);
    }

    private void noStepWithOthers() {
        about("an equation without a STEP adds what is left of it, squared");
        Quakebook x = standing(3, 30);
        x.tell(31, 100, 0, 0);
        x.arrive(0, 0, 110, 1);
        x.slip(9);
        tells(x, 0, ". . 5 . . . . .", "0", 1, 1, 1);
        x.tell(30, 300, 0, 0);
        x.arrive(0, 0, 303, 1);
        tells(x, 0, ". . 5 . . . . .", "9", 2, 1, 1);
        x.arrive(1, 0, 296, 1);
        tells(x, 0, ". . 5 . . . . .", "25", 3, 1, 1);
        x.arrive(2, 0, 300, 1);
        tells(x, 0, ". . 5 . . . . .", "25", 4, 1, 1);
    }

    private void ofThatWave() {
        about("each ARRIVAL of that WAVE");
        Quakebook x = standing(1, 0);
        x.tell(1, 100, 0, 0);
        x.arrive(0, 1, 111, 1);
        tells(x, 0, "-", "-", 0, 0, 0);
        tells(x, 1, "11/2 . . . . . . .", "0", 1, 1, 1);
        x.arrive(0, 0, 105, 1);
        tells(x, 0, "5/2 . . . . . . .", "0", 1, 1, 1);
        tells(x, 1, "11/2 . . . . . . .", "0", 1, 1, 1);
    }

    private void onlyPut() {
        about("each ARRIVAL that is put to a SHOCK: none that is left or FORGOTTEN");
        Quakebook x = standing(1, 0);
        x.tell(1, 100, 0, 0);
        x.arrive(0, 0, 106, 1);
        x.arrive(0, 0, 104, 1);
        tells(x, 0, "3 . . . . . . .", "0", 1, 1, 1);
        x.forget(0);
        tells(x, 0, "2 . . . . . . .", "0", 1, 1, 1);
        x.slip(0);
        tells(x, 0, "-", "-", 0, 0, 0);
        x.undo();
        tells(x, 0, "2 . . . . . . .", "0", 1, 1, 1);
        x.drop(0);
        tells(x, 0, "-", "-", 0, 0, 0);
    }

    private void layersLeftOut() {
        about("LAYERS that no equation has are left out");
        Quakebook x = standing(1, 0);
        x.station(94);
        x.tell(1, 100, 0, 0);
        x.tell(95, 500, 0, 0);
        x.arrive(0, 0, 106, 1);
        tells(x, 0, "3 . . . . . . .", "0", 1, 1, 1);
        x.arrive(1, 0, 508, 1);
        tells(x, 0, "3 . . . . . . 4", "0", 2, 2, 1);
        x.forget(0);
        tells(x, 0, ". . . . . . . 4", "0", 1, 1, 1);
    }

    private void notDetermined() {
        about("not determined, if several are so (all of it, then)");
        // The LAYERS 0 and 1 come only together; the LAYER 7 alone would be determined.
        Quakebook x = standing(2, 0);
        x.station(95);
        x.tell(12, 100, 0, 0);
        x.tell(94, 500, 0, 0);
        x.arrive(0, 0, 106, 1);
        x.arrive(2, 0, 506, 1);
        tells(x, 0, "-", "-", 2, 3, 0);
        x.arrive(1, 0, 107, 1);
        tells(x, 0, "-", "-", 3, 3, 0);
        x.tell(0, 900, 0, 0);
        x.arrive(0, 0, 900, 1);
        tells(x, 0, "-", "-", 4, 3, 0);
        x.offset(0, 0);
        x.tell(1, 700, 0, 0);
        x.arrive(0, 0, 706, 1);
        // 3 of the LAYER 0, so that 3 and 4 would be due of the LAYER 1: between them.
        tells(x, 0, "3 7/2 . . . . . 3", "1/2", 5, 3, 1);
    }

    /** SHOCKS in the first COLUMN, one a LAYER, all heard in the cell 0; and one in the cell 0, heard beside it. */
    private static Quakebook straightDown() {
        Quakebook x = standing(1, 0);
        x.station(1);
        for (int layer = 0; layer < 8; layer++) {
            x.layer(layer, 0, 1 + layer);
        }
        for (int layer = 0; layer < 8; layer++) {
            x.tell(12 * layer, 1000 * layer, 0, 0);
        }
        for (int layer = 1; layer < 8; layer++) {
            x.arrive(0, 0, 1000 * layer + x.time(0, 12 * layer, 0), 1);
        }
        return x;
    }

    private void allLayers() {
        about("all LAYERS, from one equation less than they are to one more");
        Quakebook x = straightDown();
        tells(x, 0, "-", "-", 7, 8, 0);
        x.arrive(1, 0, 2, 1);
        tells(x, 0, "1 2 3 4 5 6 7 8", "0", 8, 8, 1);
        x.arrive(0, 0, 0, 1);
        tells(x, 0, "1 2 3 4 5 6 7 8", "0", 9, 8, 1);
        x.forget(6);
        tells(x, 0, "1 2 3 4 5 6 7 .", "0", 8, 7, 1);
        x.forget(7);
        tells(x, 0, "-", "-", 7, 7, 0);
    }

    private void endsOfSteps() {
        about("how often a cell of each LAYER ends a STEP of it (each STEP has two ends)");
        // Three STEPS along the LAYER 3 have six ends there.
        Quakebook x = standing(1, 36);
        x.tell(39, 100, 0, 0);
        x.arrive(0, 0, 119, 1);
        tells(x, 0, ". . . 19/6 . . . .", "0", 1, 1, 1);
        // Right, then down: three ends above, one below.
        Quakebook y = standing(1, 0);
        y.station(0);
        y.tell(13, 100, 0, 0);
        y.tell(1, 500, 0, 0);
        y.arrive(0, 0, 112, 1);
        y.arrive(0, 0, 508, 1);
        tells(y, 0, "4 0 . . . . . .", "0", 2, 2, 1);
    }

    private void fromShockToStation() {
        about("for the WAY from the cell of its SHOCK to that of its STATION");
        Quakebook x = GroundTest.twoWays();
        x.station(27);
        x.tell(29, 100, 0, 0);
        x.arrive(0, 0, 116, 1);
        tells(x, 0, ". . 4 . . . . .", "0", 1, 1, 1);
        Quakebook y = GroundTest.twoWays();
        y.station(29);
        y.tell(27, 100, 0, 0);
        y.arrive(0, 0, 116, 1);
        tells(y, 0, "-", "-", 1, 3, 0);
    }

    private void leastSquares() {
        about("those for which the sum of the squares of what is left of all equations is least");
        Quakebook x = standing(3, 0);
        x.tell(1, 100, 0, 0);
        x.arrive(0, 0, 104, 1);
        x.arrive(1, 0, 106, 1);
        tells(x, 0, "5/2 . . . . . . .", "2", 2, 1, 1);
        x.arrive(2, 0, 109, 1);
        // 4, 6 and 9 by 2 s: 19/3 between them.
        tells(x, 0, "19/6 . . . . . . .", "38/3", 3, 1, 1);
        x.tell(2, 500, 0, 0);
        x.arrive(0, 0, 512, 1);
        tells(x, 0, "43/14 . . . . . . .", "90/7", 4, 1, 1);
    }

    private void belowZero() {
        about("a SLOWNESS made out may be 0, or below; the bottom is above 0");
        int[][] minutes = {{93, -7}, {96, -4}, {98, -2}, {99, -1}, {100, 0}, {101, 1}, {102, 2}};
        String[] due = {"-7/2", "-2", "-1", "-1/2", "0", "1/2", "1"};
        for (int k = 0; k < due.length; k++) {
            Quakebook x = standing(1, 95);
            x.layer(7, 1, 1);
            x.slip(9);
            x.tell(94, 100, 0, 0);
            x.arrive(0, 1, minutes[k][0], 1);
            is(2 - minutes[k][1], x.ofArrival(0, 6), "ofArrival(0, 6)");
            tells(x, 1, ". . . . . . . " + due[k], "0", 1, 1, 1);
        }
    }

    private void mostEquations() {
        about("as many equations as there can be ARRIVALS");
        Quakebook x = standing(6, 0);
        for (int shock = 0; shock < 4; shock++) {
            x.tell(1, 1000 * shock, 0, 0);
        }
        for (int k = 0; k < 24; k++) {
            x.arrive(k % 6, 0, 1000 * (k / 6) + (k < 12 ? 5 : 7), 1);
        }
        tells(x, 0, "3 . . . . . . .", "24", 24, 1, 1);
        is(6, x.ofShock(3, 3), "ofShock(3, 3)");
    }

    private void whatOfMade() {
        about("ofMade(): a WAVE, and what is 0 to 2");
        Quakebook x = standing(1, 0);
        for (int wave : new int[] {-1, 2, LOW, HIGH}) {
            index(x, () -> x.made(wave), "made(" + wave + ")");
            index(x, () -> x.left(wave), "left(" + wave + ")");
            index(x, () -> x.ofMade(wave, 0), "ofMade(" + wave + ", 0)");
            index(x, () -> x.ofMade(wave, 3), "ofMade(" + wave + ", 3)");
        }
        for (int what : new int[] {-1, 3, LOW, HIGH}) {
            argument(x, () -> x.ofMade(1, what), "ofMade(1, " + what + ")");
        }
    }
}
