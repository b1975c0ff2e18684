import java.math.BigInteger;
import java.util.ArrayList;
import java.util.Arrays;
import java.util.List;

/** The boundary cases of the document's section 5: the equations, the SLOWNESSES made out, and what is left. */
public final class MadeTest extends Looks {
    public static void main(String[] args) {
        MadeTest t = new MadeTest();
        t.noEquation();
        t.noStepAlone();
        t.noStepWithOthers();
        t.ofThatWave();
        t.onlyPut();
        t.layersLeftOut();
        t.notDetermined();
        t.allLayers();
        t.endsOfSteps();
        t.fromShockToStation();
        t.leastSquares();
        t.belowZero();
        t.mostEquations();
        t.greatestNumbers();
        t.longestWay();
        t.greatestGround();
        t.whatOfMade();
        t.end();
    }

    private void tells(Quakebook x, int wave, String made, String left, int... ofMade) {
        is(made, x.made(wave), "made(" + wave + ")");
        is(left, x.left(wave), "left(" + wave + ")");
        for (int what = 0; what < 3; what++) {
            is(ofMade[what], x.ofMade(wave, what), "ofMade(" + wave + ", " + what + ")");
        }
    }

    private void noEquation() {
        about("not determined, if there is no equation with a LAYER (all of it, then)");
        Quakebook x = standing(1, 0);
        tells(x, 0, "-", "-", 0, 0, 0);
        tells(x, 1, "-", "-", 0, 0, 0);
        x.tell(5, 100, 0, 0);
        x.arrive(0, 0, 5000, 1);
        tells(x, 0, "-", "-", 0, 0, 0);
    }

    private void noStepAlone() {
        about("an equation also without a STEP, in which no LAYER is; not determined without one with a LAYER");
        Quakebook x = standing(2, 30);
        x.tell(30, 100, 0, 0);
        x.arrive(0, 0, 102, 1);
        tells(x, 0, "-", "-", 1, 0, 0);
        x.arrive(1, 0, 99, 1);
        tells(x, 0, "-", "-", 2, 0, 0);
        tells(x, 1, "-", "-", 0, 0, 0);
    }

    private void noStepWithOthers() {
        about("an equation without a STEP adds what is left of it, squared");
        Quakebook x = standing(3, 30);
        x.tell(31, 100, 0, 0);
        x.arrive(0, 0, 110, 1);
        x.slip(9);
        tells(x, 0, ". . 5 . . . . .", "0", 1, 1, 1);
        x.tell(30, 300, 0, 0);
        x.arrive(0, 0, 303, 1);
        tells(x, 0, ". . 5 . . . . .", "9", 2, 1, 1);
        x.arrive(1, 0, 296, 1);
        tells(x, 0, ". . 5 . . . . .", "25", 3, 1, 1);
        x.arrive(2, 0, 300, 1);
        tells(x, 0, ". . 5 . . . . .", "25", 4, 1, 1);
    }

    private void ofThatWave() {
        about("each ARRIVAL of that WAVE");
        Quakebook x = standing(1, 0);
        x.tell(1, 100, 0, 0);
        x.arrive(0, 1, 111, 1);
        tells(x, 0, "-", "-", 0, 0, 0);
        tells(x, 1, "11/2 . . . . . . .", "0", 1, 1, 1);
        x.arrive(0, 0, 105, 1);
        tells(x, 0, "5/2 . . . . . . .", "0", 1, 1, 1);
        tells(x, 1, "11/2 . . . . . . .", "0", 1, 1, 1);
    }

    private void onlyPut() {
        about("each ARRIVAL that is put to a SHOCK: none that is left or FORGOTTEN");
        Quakebook x = standing(1, 0);
        x.tell(1, 100, 0, 0);
        x.arrive(0, 0, 106, 1);
        x.arrive(0, 0, 104, 1);
        tells(x, 0, "3 . . . . . . .", "0", 1, 1, 1);
        x.forget(0);
        tells(x, 0, "2 . . . . . . .", "0", 1, 1, 1);
        x.slip(0);
        tells(x, 0, "-", "-", 0, 0, 0);
        x.undo();
        tells(x, 0, "2 . . . . . . .", "0", 1, 1, 1);
        x.drop(0);
        tells(x, 0, "-", "-", 0, 0, 0);
    }

    private void layersLeftOut() {
        about("LAYERS that no equation has are left out");
        Quakebook x = standing(1, 0);
        x.station(94);
        x.tell(1, 100, 0, 0);
        x.tell(95, 500, 0, 0);
        x.arrive(0, 0, 106, 1);
        tells(x, 0, "3 . . . . . . .", "0", 1, 1, 1);
        x.arrive(1, 0, 508, 1);
        tells(x, 0, "3 . . . . . . 4", "0", 2, 2, 1);
        x.forget(0);
        tells(x, 0, ". . . . . . . 4", "0", 1, 1, 1);
    }

    private void notDetermined() {
        about("not determined, if several are so (all of it, then)");
        // The LAYERS 0 and 1 come only together; the LAYER 7 alone would be determined.
        Quakebook x = standing(2, 0);
        x.station(95);
        x.tell(12, 100, 0, 0);
        x.tell(94, 500, 0, 0);
        x.arrive(0, 0, 106, 1);
        x.arrive(2, 0, 506, 1);
        tells(x, 0, "-", "-", 2, 3, 0);
        x.arrive(1, 0, 107, 1);
        tells(x, 0, "-", "-", 3, 3, 0);
        x.tell(0, 900, 0, 0);
        x.arrive(0, 0, 900, 1);
        tells(x, 0, "-", "-", 4, 3, 0);
        x.offset(0, 0);
        x.tell(1, 700, 0, 0);
        x.arrive(0, 0, 706, 1);
        // 3 of the LAYER 0, so that 3 and 4 would be due of the LAYER 1: between them.
        tells(x, 0, "3 7/2 . . . . . 3", "1/2", 5, 3, 1);
    }

    /** SHOCKS in the first COLUMN, one a LAYER, all heard in the cell 0; and one in the cell 0, heard beside it. */
    private static Quakebook straightDown() {
        Quakebook x = standing(1, 0);
        x.station(1);
        for (int layer = 0; layer < 8; layer++) {
            x.layer(layer, 0, 1 + layer);
        }
        for (int layer = 0; layer < 8; layer++) {
            x.tell(12 * layer, 1000 * layer, 0, 0);
        }
        for (int layer = 1; layer < 8; layer++) {
            x.arrive(0, 0, 1000 * layer + x.time(0, 12 * layer, 0), 1);
        }
        return x;
    }

    private void allLayers() {
        about("all LAYERS, from one equation less than they are to one more");
        Quakebook x = straightDown();
        tells(x, 0, "-", "-", 7, 8, 0);
        x.arrive(1, 0, 2, 1);
        tells(x, 0, "1 2 3 4 5 6 7 8", "0", 8, 8, 1);
        x.arrive(0, 0, 0, 1);
        tells(x, 0, "1 2 3 4 5 6 7 8", "0", 9, 8, 1);
        x.forget(6);
        tells(x, 0, "1 2 3 4 5 6 7 .", "0", 8, 7, 1);
        x.forget(7);
        tells(x, 0, "-", "-", 7, 7, 0);
    }

    private void endsOfSteps() {
        about("how often a cell of each LAYER ends a STEP of it (each STEP has two ends)");
        // Three STEPS along the LAYER 3 have six ends there.
        Quakebook x = standing(1, 36);
        x.tell(39, 100, 0, 0);
        x.arrive(0, 0, 119, 1);
        tells(x, 0, ". . . 19/6 . . . .", "0", 1, 1, 1);
        // Right, then down: three ends above, one below.
        Quakebook y = standing(1, 0);
        y.station(0);
        y.tell(13, 100, 0, 0);
        y.tell(1, 500, 0, 0);
        y.arrive(0, 0, 112, 1);
        y.arrive(0, 0, 508, 1);
        tells(y, 0, "4 0 . . . . . .", "0", 2, 2, 1);
    }

    private void fromShockToStation() {
        about("for the WAY from the cell of its SHOCK to that of its STATION");
        Quakebook x = GroundTest.twoWays();
        x.station(27);
        x.tell(29, 100, 0, 0);
        x.arrive(0, 0, 116, 1);
        tells(x, 0, ". . 4 . . . . .", "0", 1, 1, 1);
        Quakebook y = GroundTest.twoWays();
        y.station(29);
        y.tell(27, 100, 0, 0);
        y.arrive(0, 0, 116, 1);
        tells(y, 0, "-", "-", 1, 3, 0);
    }

    private void leastSquares() {
        about("those for which the sum of the squares of what is left of all equations is least");
        Quakebook x = standing(3, 0);
        x.tell(1, 100, 0, 0);
        x.arrive(0, 0, 104, 1);
        x.arrive(1, 0, 106, 1);
        tells(x, 0, "5/2 . . . . . . .", "2", 2, 1, 1);
        x.arrive(2, 0, 109, 1);
        // 4, 6 and 9 by 2 s: 19/3 between them.
        tells(x, 0, "19/6 . . . . . . .", "38/3", 3, 1, 1);
        x.tell(2, 500, 0, 0);
        x.arrive(0, 0, 512, 1);
        tells(x, 0, "43/14 . . . . . . .", "90/7", 4, 1, 1);
    }

    private void belowZero() {
        about("a SLOWNESS made out may be 0, or below; the bottom is above 0");
        int[][] minutes = {{93, -7}, {96, -4}, {98, -2}, {99, -1}, {100, 0}, {101, 1}, {102, 2}};
        String[] due = {"-7/2", "-2", "-1", "-1/2", "0", "1/2", "1"};
        for (int k = 0; k < due.length; k++) {
            Quakebook x = standing(1, 95);
            x.layer(7, 1, 1);
            x.slip(9);
            x.tell(94, 100, 0, 0);
            x.arrive(0, 1, minutes[k][0], 1);
            is(2 - minutes[k][1], x.ofArrival(0, 6), "ofArrival(0, 6)");
            tells(x, 1, ". . . . . . . " + due[k], "0", 1, 1, 1);
        }
    }

    private void mostEquations() {
        about("as many equations as there can be ARRIVALS");
        Quakebook x = standing(6, 0);
        for (int shock = 0; shock < 4; shock++) {
            x.tell(1, 1000 * shock, 0, 0);
        }
        for (int k = 0; k < 24; k++) {
            x.arrive(k % 6, 0, 1000 * (k / 6) + (k < 12 ? 5 : 7), 1);
        }
        tells(x, 0, "3 . . . . . . .", "24", 24, 1, 1);
        is(6, x.ofShock(3, 3), "ofShock(3, 3)");
    }

    /** All LAYERS as slow as can be, ten SHOCKS far from one another, and 24 ARRIVALS, each as far off as it may be. */
    private static Quakebook farOff() {
        Quakebook x = GroundTest.snake();
        int[] cells = {0, 84, 28, 59, 79, 50};
        for (int cell : cells) {
            x.station(cell);
        }
        x.slip(9);
        int[] sources = {84, 83, 73, 3, 54, 31, 23, 10, 36, 71};
        for (int shock = 0; shock < 10; shock++) {
            x.tell(sources[shock], 900 * shock, 0, 0);
        }
        for (int k = 0; k < 24; k++) {
            int minute = 900 * (k % 10) + x.time(cells[k % 6], sources[k % 10], 0);
            x.arrive(k % 6, 0, minute + (k * k % 5 < 2 || k == 0 ? 9 : -9), 1);
        }
        return x;
    }

    private static List<long[]> equations(Quakebook x, int wave, int[] stations) {
        List<long[]> equations = new ArrayList<>();
        int arrivals = x.count(2);
        for (int arrival = 0; arrival < arrivals; arrival++) {
            int shock = x.ofArrival(arrival, 5);
            if (shock != -1 && x.ofArrival(arrival, 1) == wave) {
                String[] way = x.way(x.ofShock(shock, 0), stations[x.ofArrival(arrival, 0)], wave).split(" ");
                long[] equation = new long[9];
                for (int k = 1; k < way.length; k++) {
                    equation[Integer.parseInt(way[k - 1]) / 12]++;
                    equation[Integer.parseInt(way[k]) / 12]++;
                }
                equation[8] = x.ofArrival(arrival, 4) - x.ofShock(shock, 1);
                equations.add(equation);
            }
        }
        return equations;
    }

    private static BigInteger top(String fraction) {
        return new BigInteger(fraction.split("/")[0]);
    }

    private static BigInteger bottom(String fraction) {
        return fraction.contains("/") ? new BigInteger(fraction.split("/")[1]) : BigInteger.ONE;
    }

    /**
     * The sum of the squares is least where what is left of the equations, each by how often a LAYER is in it,
     * together is 0 for each LAYER. All is taken so often that no bottom is left.
     */
    private void leastByHand(Quakebook x, int wave, int... stations) {
        String[] made = x.made(wave).split(" ");
        is(8, made.length, "LAYERS of made(" + wave + ")");
        BigInteger often = BigInteger.ONE;
        for (String m : made) {
            is(BigInteger.ONE, top(m).gcd(bottom(m)), "what divides top and bottom of " + m);
            often = often.multiply(bottom(m)).divide(often.gcd(bottom(m)));
        }
        BigInteger[] together = new BigInteger[8];
        Arrays.fill(together, BigInteger.ZERO);
        BigInteger squares = BigInteger.ZERO;
        for (long[] equation : equations(x, wave, stations)) {
            BigInteger rest = often.multiply(BigInteger.valueOf(equation[8]));
            for (int layer = 0; layer < 8; layer++) {
                BigInteger slowness = top(made[layer]).multiply(often.divide(bottom(made[layer])));
                rest = rest.subtract(slowness.multiply(BigInteger.valueOf(equation[layer])));
            }
            for (int layer = 0; layer < 8; layer++) {
                together[layer] = together[layer].add(rest.multiply(BigInteger.valueOf(equation[layer])));
            }
            squares = squares.add(rest.multiply(rest));
        }
        for (int layer = 0; layer < 8; layer++) {
            is(BigInteger.ZERO, together[layer], "what is left by the LAYER " + layer);
        }
        BigInteger whole = often.multiply(often);
        BigInteger divisor = squares.gcd(whole);
        is(squares.divide(divisor) + (whole.equals(divisor) ? "" : "/" + whole.divide(divisor)), x.left(wave),
                "left(" + wave + ")");
    }

    private void greatestNumbers() {
        about("the sum of the squares is least, and told in lowest terms, however great the numbers on the way are");
        Quakebook x = farOff();
        is(24, x.ofMade(0, 0), "ofMade(0, 0)");
        is(8, x.ofMade(0, 1), "ofMade(0, 1)");
        leastByHand(x, 0, 0, 84, 28, 59, 79, 50);
        leastByHand(Books.full(), 0, 0, 11, 84, 50, 50, 95);
        leastByHand(Books.full(), 1, 0, 11, 84, 50, 50, 95);
        Quakebook y = straightDown();
        y.arrive(1, 0, 1, 1);
        leastByHand(y, 0, 0, 1);
    }

    private void longestWay() {
        about("how often a cell of each LAYER ends a STEP of a WAY that WALLS make as long as they can");
        // SHOCKS further and further along the WAY, each heard at both ends of it.
        int[] along = {11, 47, 45, 32, 7, 16, 30, 68, 71, 94};
        Quakebook x = GroundTest.winding(1, 9);
        x.station(9);
        x.station(89);
        x.slip(9);
        for (int shock = 0; shock < 10; shock++) {
            x.tell(along[shock], 950 * shock, 0, 0);
            for (int station = 0; station < 2; station++) {
                int time = x.time(along[shock], 9 + 80 * station, 1);
                x.arrive(station, 1, 950 * shock + time + (shock % 2 == station ? 9 : -9), 1);
            }
        }
        is(20, x.ofMade(1, 0), "ofMade(1, 0)");
        leastByHand(x, 1, 9, 89);
        // One alone from end to end: each LAYER is in it, so that several make it out.
        Quakebook y = GroundTest.winding(1, 9);
        y.station(9);
        y.tell(89, 8901, 0, 0);
        y.arrive(0, 1, 9999, 1);
        tells(y, 1, "-", "-", 1, 8, 0);
        // A whole LAYER along: 11 STEPS with 22 ends.
        Quakebook z = standing(1, 0);
        z.slip(9);
        z.tell(11, 100, 0, 0);
        z.arrive(0, 0, 166 + 9, 1);
        tells(z, 0, "75/22 . . . . . . .", "0", 1, 1, 1);
    }

    private void greatestGround() {
        about("due for the greatest of these numbers, in lowest terms, the bottom above 0");
        // Found by a long search: of all grounds that it saw this has the greatest numbers, of some 100 bits.
        String[] ground = {"978977842537", "765869439389", "655684198999", "445327#####9", "4#####169989",
            "#27763585981", "116793857752", "134884926553"};
        int[] cells = {72, 61, 54, 84, 84, 11};
        int[] sources = {31, 0, 57, 24, 12, 48, 24, 48, 58, 51};
        // Each ARRIVAL: its STATION, its SHOCK, and whether it comes 9 minutes later or sooner.
        String arrivals = "53- 03+ 17+ 06- 31+ 36+ 24+ 48- 55- 16+ 01+ 44- 23+ 57- 14+ 41+ 56- 05+ 21+ 11+ 27+ 04- 38- 45-";
        for (int wave = 0; wave < 2; wave++) {
            Quakebook x = new Quakebook();
            for (int cell = 0; cell < 96; cell++) {
                char sign = ground[cell / 12].charAt(cell % 12);
                if (sign == '#') {
                    x.wall(cell, true);
                } else {
                    x.slow(cell, wave, sign - '0');
                }
            }
            x.slip(9);
            for (int cell : cells) {
                x.station(cell);
            }
            for (int shock = 0; shock < 10; shock++) {
                x.tell(sources[shock], 900 * shock, 0, 0);
            }
            for (String arrival : arrivals.split(" ")) {
                int station = arrival.charAt(0) - '0';
                int shock = arrival.charAt(1) - '0';
                int time = x.time(sources[shock], cells[station], wave);
                int number = x.arrive(station, wave, 900 * shock + time + (arrival.charAt(2) == '+' ? 9 : -9), 1);
                is(shock, x.ofArrival(number, 5), "ofArrival(" + number + ", 5)");
            }
            tells(x, wave, "1502358832543241121415/248568318795658636789"
                    + " 1496792986586087523269/248568318795658636789 1548545423854488518520/248568318795658636789"
                    + " 1496981076033205754052/461626877763366039751 27408696114777757360410/3231388144343562278257"
                    + " 3000702867510361594947/461626877763366039751 18620804457296911729858/3231388144343562278257"
                    + " 2485770102368207018444/461626877763366039751",
                    "6174933167596631752442876/248568318795658636789", 24, 8, 1);
            leastByHand(x, wave, cells);
            is(true, x.isSound(), "isSound()");
        }
    }

    private void whatOfMade() {
        about("ofMade(): a WAVE, and what is 0 to 2");
        Quakebook x = standing(1, 0);
        for (int wave : new int[] {-1, 2, LOW, HIGH}) {
            index(x, () -> x.made(wave), "made(" + wave + ")");
            index(x, () -> x.left(wave), "left(" + wave + ")");
            index(x, () -> x.ofMade(wave, 0), "ofMade(" + wave + ", 0)");
            index(x, () -> x.ofMade(wave, 3), "ofMade(" + wave + ", 3)");
        }
        for (int what : new int[] {-1, 3, LOW, HIGH}) {
            argument(x, () -> x.ofMade(1, what), "ofMade(1, " + what + ")");
        }
    }
}
