import java.math.BigInteger;

/** The boundary cases of the document's section 4: LINKS, CLUSTERS, MAIN, RATES, SLOPES, ALERTS, and the book. */
public final class ClusterTest extends Looks {
    public static void main(String[] args) {
        ClusterTest t = new ClusterTest();
        t.linkedByRoom();
        t.linkedByTime();
        t.linkedByBoth();
        t.furthestApart();
        t.beyondAllTimes();
        t.clustersOfTen();
        t.chains();
        t.order();
        t.mainBySize();
        t.mainWithoutSize();
        t.mainByMinute();
        t.mainByNumber();
        t.minutesOfCluster();
        t.whatOfCluster();
        t.merged();
        t.mergedByEdges();
        t.mergedThenTidied();
        t.rates();
        t.rateEdges();
        t.forecasts();
        t.slopes();
        t.slopeEdges();
        t.greatSizes();
        t.greatestSlope();
        t.noRulesAtFirst();
        t.fourRules();
        t.ruleEdges();
        t.alertColumns();
        t.alertSizes();
        t.bookOrder();
        t.fractions();
        t.end();
    }

    /** SHOCKS without a told SIZE, by cell and minute. */
    private static Quakebook shocks(int[][] cellsAndMinutes) {
        Quakebook x = new Quakebook();
        for (int[] s : cellsAndMinutes) {
            x.tell(s[0], s[1], 0, 0);
        }
        return x;
    }

    private void linkedByRoom() {
        about("LINKED: at most so many LAYERS and COLUMNS apart, both added");
        int[][] pairs = {{50, 50, 0}, {50, 51, 1}, {50, 38, 1}, {50, 63, 2}, {50, 52, 2}, {50, 26, 2}, {50, 37, 2},
            {11, 12, 12}, {0, 11, 11}, {0, 84, 7}, {84, 11, 18}, {0, 95, 18}, {13, 94, 15}};
        for (int[] pair : pairs) {
            Quakebook x = shocks(new int[][] {{pair[0], 7}, {pair[1], 7}});
            for (int room = 0; room <= 18; room++) {
                is(room >= pair[2] ? "0,1" : "0 1", x.clusters(room, 0),
                        "clusters(" + room + ", 0) of " + pair[0] + " and " + pair[1]);
            }
        }
    }

    private void linkedByTime() {
        about("LINKED: their minutes at most so many apart");
        int[][] minutes = {{5, 5, 0}, {5, 6, 1}, {6, 5, 1}, {100, 0, 100}, {0, 9999, 9999}, {9999, 1, 9998}};
        for (int[] pair : minutes) {
            Quakebook x = shocks(new int[][] {{3, pair[0]}, {3, pair[1]}});
            String words = " of " + pair[0] + " and " + pair[1];
            is("0,1", x.clusters(0, pair[2]), "clusters(0, " + pair[2] + ")" + words);
            if (pair[2] > 0) {
                is("0 1", x.clusters(18, pair[2] - 1), "clusters(18, " + (pair[2] - 1) + ")" + words);
            }
        }
    }

    private void linkedByBoth() {
        about("LINKED: by a room and a time, both");
        Quakebook x = shocks(new int[][] {{0, 0}, {13, 10}});
        is("0,1", x.clusters(2, 10), "clusters(2, 10)");
        is("0 1", x.clusters(1, 10), "clusters(1, 10)");
        is("0 1", x.clusters(2, 9), "clusters(2, 9)");
        is("0 1", x.clusters(1, 9999), "clusters(1, 9999)");
        is("0 1", x.clusters(18, 9), "clusters(18, 9)");
    }

    private void furthestApart() {
        about("room is 0 to 18, time 0 to 9999");
        Quakebook x = shocks(new int[][] {{0, 0}, {95, 9999}});
        is("0,1", x.clusters(18, 9999), "clusters(18, 9999)");
        is("0 1", x.clusters(17, 9999), "clusters(17, 9999)");
        is("0 1", x.clusters(18, 9998), "clusters(18, 9998)");
        is("0 1", x.clusters(0, 0), "clusters(0, 0)");
        int[][] wrong = {{-1, 0}, {19, 0}, {0, -1}, {0, 10000}, {LOW, HIGH}, {HIGH, LOW}};
        for (int[] w : wrong) {
            argument(x, () -> x.clusters(w[0], w[1]), "clusters(" + w[0] + ", " + w[1] + ")");
            argument(x, () -> x.merge(w[0], w[1]), "merge(" + w[0] + ", " + w[1] + ")");
            argument(x, () -> x.ofCluster(0, w[0], w[1], 0), "ofCluster(0, " + w[0] + ", " + w[1] + ", 0)");
            index(x, () -> x.ofCluster(2, w[0], w[1], 0), "ofCluster(2, " + w[0] + ", " + w[1] + ", 0)");
        }
    }

    private void beyondAllTimes() {
        about("two SHOCKS may be more than 9999 minutes apart, as one that is GATHERED may be ahead of 0");
        Quakebook x = standing(2, 0);
        x.offset(0, 1);
        x.offset(1, 1);
        x.arrive(0, 0, 0, 1);
        x.arrive(1, 0, 0, 1);
        x.gather(2);
        x.tell(0, 9999, 0, 0);
        is("0@0:-1 1@0:9999", x.book(), "book()");
        is("0 1", x.clusters(18, 9999), "clusters(18, 9999)");
        is(0, x.merge(18, 9999), "merge(18, 9999)");
        x.tell(0, 9998, 0, 0);
        is("0,1,2", x.clusters(18, 9999), "clusters(18, 9999) by way of a third");
        is(-1, x.ofCluster(2, 0, 9999, 4), "ofCluster(2, 0, 9999, 4)");
        is(9999, x.ofCluster(2, 0, 9999, 5), "ofCluster(2, 0, 9999, 5)");
    }

    private void clustersOfTen() {
        about("clusters(): all CLUSTERS, from one SHOCK to ten");
        Quakebook x = new Quakebook();
        String together = "";
        String alone = "";
        for (int k = 0; k < 10; k++) {
            x.tell(k, 10 * k, 0, 0);
            together += (k == 0 ? "" : ",") + k;
            alone += (k == 0 ? "" : " ") + k;
            is(together, x.clusters(1, 10), "clusters(1, 10)");
            is(alone, x.clusters(1, 9), "clusters(1, 9)");
            is(alone, x.clusters(0, 9999), "clusters(0, 9999)");
            is(k + 1, x.ofCluster(0, 1, 10, 0), "ofCluster(0, 1, 10, 0)");
            is(1, x.ofCluster(k, 0, 0, 0), "ofCluster(" + k + ", 0, 0, 0)");
        }
    }

    private void chains() {
        about("CLUSTER of a SHOCK: all to which one comes from it by LINKS");
        Quakebook x = shocks(new int[][] {{0, 0}, {50, 0}, {3, 0}, {9, 0}, {6, 0}, {90, 0}, {12, 0}});
        is("0,2,3,4,6 1 5", x.clusters(3, 0), "clusters(3, 0)");
        is("0,6 1 2 3 4 5", x.clusters(2, 0), "clusters(2, 0)");
        is("0,1,2,3,4,6 5", x.clusters(5, 0), "clusters(5, 0)");
        is("0,1,2,3,4,5,6", x.clusters(7, 0), "clusters(7, 0)");
        is(5, x.ofCluster(3, 3, 0, 0), "ofCluster(3, 3, 0, 0)");
        x.drop(4);
        is("0,2,5 1 3 4", x.clusters(3, 0), "clusters(3, 0) without a LINK");
    }

    private void order() {
        about("clusters(): by the smallest number in them, each as its SHOCKS, rising");
        Quakebook x = shocks(new int[][] {{90, 50}, {0, 9}, {91, 50}, {1, 9}, {40, 7}, {90, 49}, {2, 8}});
        is("0,2,5 1,3,6 4", x.clusters(1, 1), "clusters(1, 1)");
    }

    private void mainBySize() {
        about("MAIN: that with the greatest SIZE");
        Quakebook x = new Quakebook();
        x.tell(0, 5, 2, 3);
        x.tell(0, 5, 667, 999);
        x.tell(0, 5, 5, 8);
        is(1, x.ofCluster(0, 0, 0, 1), "ofCluster(0, 0, 0, 1)");
        x.tell(0, 9, 9999, 1);
        is(3, x.ofCluster(2, 0, 4, 1), "ofCluster(2, 0, 4, 1)");
        is(1, x.ofCluster(2, 0, 3, 1), "ofCluster(2, 0, 3, 1)");
        is(3, x.ofCluster(3, 0, 3, 1), "ofCluster(3, 0, 3, 1)");
    }

    private void mainWithoutSize() {
        about("MAIN: a SIZE that is not determined is less than all");
        Quakebook x = new Quakebook();
        x.tell(0, 0, 0, 0);
        x.tell(0, 5, 1, 999);
        is(1, x.ofCluster(0, 0, 5, 1), "ofCluster(0, 0, 5, 1)");
        is(0, x.ofCluster(0, 0, 4, 1), "ofCluster(0, 0, 4, 1)");
        x.tell(0, 0, 0, 0);
        is(1, x.ofCluster(2, 0, 5, 1), "ofCluster(2, 0, 5, 1)");
        x.drop(1);
        is(0, x.ofCluster(1, 0, 5, 1), "ofCluster(1, 0, 5, 1) without any SIZE");
        is("-", x.slope(0, 1), "slope(0, 1)");
        x.rule(0, 1, 0, 11);
        is("", x.alerts(), "alerts() with a least SIZE of 0");
        is(0, x.ofShock(0, 5), "ofShock(0, 5)");
        x.tell(0, 7, 1, 999);
        is("2", x.alerts(), "alerts()");
        is("999", x.slope(0, 1), "slope(0, 1)");
    }

    private void mainByMinute() {
        about("MAIN: of several the one with the smallest minute");
        Quakebook x = new Quakebook();
        x.tell(0, 30, 4, 2);
        x.tell(0, 10, 6, 3);
        x.tell(0, 20, 2, 1);
        is(1, x.ofCluster(0, 0, 20, 1), "ofCluster(0, 0, 20, 1)");
        Quakebook y = shocks(new int[][] {{0, 30}, {0, 10}, {0, 20}});
        is(1, y.ofCluster(0, 0, 20, 1), "ofCluster(0, 0, 20, 1) without a SIZE");
    }

    private void mainByNumber() {
        about("MAIN: then the first");
        Quakebook x = shocks(new int[][] {{0, 10}, {1, 10}, {2, 10}});
        for (int shock = 0; shock < 3; shock++) {
            is(0, x.ofCluster(shock, 1, 0, 1), "ofCluster(" + shock + ", 1, 0, 1)");
        }
        is(2, x.merge(1, 0), "merge(1, 0)");
        is("0@0:10", x.book(), "book()");
    }

    private void minutesOfCluster() {
        about("ofCluster(): how many have a smaller minute than MAIN, how many a greater one");
        Quakebook x = new Quakebook();
        int[] minutes = {10, 20, 20, 20, 30, 30, 40, 50};
        for (int k = 0; k < minutes.length; k++) {
            x.tell(k == 7 ? 95 : 0, minutes[k], k == 2 ? 2 : 1, 1);
        }
        int[] due = {7, 2, 1, 3, 10, 40};
        int[] alone = {1, 7, 0, 0, 50, 50};
        for (int what = 0; what < 6; what++) {
            is(due[what], x.ofCluster(4, 0, 10, what), "ofCluster(4, 0, 10, " + what + ")");
            is(alone[what], x.ofCluster(7, 0, 10, what), "ofCluster(7, 0, 10, " + what + ")");
        }
    }

    private void whatOfCluster() {
        about("ofCluster(): what is 0 to 5");
        Quakebook x = shocks(new int[][] {{0, 0}});
        argument(x, () -> x.ofCluster(0, 0, 0, 6), "ofCluster(0, 0, 0, 6)");
        argument(x, () -> x.ofCluster(0, 0, 0, -1), "ofCluster(0, 0, 0, -1)");
        index(x, () -> x.ofCluster(1, 0, 0, 6), "ofCluster(1, 0, 0, 6)");
        index(x, () -> x.ofCluster(-1, 0, 0, -1), "ofCluster(-1, 0, 0, -1)");
        is(0, x.ofCluster(0, 18, 9999, 5), "ofCluster(0, 18, 9999, 5)");
    }

    private void merged() {
        about("merge(): of each CLUSTER only MAIN stays");
        Quakebook x = new Quakebook();
        for (int k = 0; k < 10; k++) {
            x.tell(9 * k, 100 * (k % 2), 1 + k % 4, 1);
        }
        is(0, x.merge(0, 0), "merge(0, 0) of those apart");
        is(10, x.count(4), "count(4)");
        is(9, x.merge(18, 9999), "merge(18, 9999) of ten");
        // The SIZE 4 had 3 and 7, both at the minute 100.
        is("0@27:100", x.book(), "book()");
        is(0, x.merge(18, 9999), "merge(18, 9999) of one");
        is(1, x.count(4), "count(4)");
    }

    private void mergedByEdges() {
        about("merge(): by LINKS of a room and a time, at most so many");
        Quakebook x = new Quakebook();
        x.tell(0, 0, 1, 1);
        x.tell(13, 50, 2, 1);
        is(0, x.merge(1, 50), "merge(1, 50)");
        is(0, x.merge(2, 49), "merge(2, 49)");
        is(1, x.merge(2, 50), "merge(2, 50)");
        is("0@13:50", x.book(), "book()");
        is(5, x.count(6), "count(6)");
    }

    private void mergedThenTidied() {
        about("merge(), then TIDYING: what was put to one that is gone goes over, if it FITS");
        Quakebook x = standing(3, 0);
        x.tell(0, 100, 0, 0);
        x.tell(0, 104, 9, 1);
        x.arrive(0, 0, 102, 1);
        x.arrive(1, 0, 98, 1);
        x.arrive(2, 0, 107, 1);
        is(3, x.putTo(0), "putTo(0)");
        is(4, x.putTo(1), "putTo(1)");
        is(1, x.merge(0, 4), "merge(0, 4)");
        is(5, x.putTo(0), "putTo(0) behind it");
        is(2, x.putTo(-1), "putTo(-1) behind it");
    }

    private void rates() {
        about("RATE: a minute from that one on, but ahead of the other one");
        Quakebook x = shocks(new int[][] {{0, 10}, {0, 10}, {0, 20}});
        is("2", x.rate(10, 11), "rate(10, 11)");
        is("0", x.rate(9, 10), "rate(9, 10)");
        is("1", x.rate(9, 11), "rate(9, 11)");
        is("0", x.rate(11, 20), "rate(11, 20)");
        is("1/10", x.rate(11, 21), "rate(11, 21)");
        is("1/5", x.rate(10, 20), "rate(10, 20)");
        is("3/11", x.rate(10, 21), "rate(10, 21)");
        is("0", x.rate(21, 9999), "rate(21, 9999)");
    }

    private void rateEdges() {
        about("rate(): from is -9999 to 9999, to from to 9999; not determined if both are the same");
        Quakebook x = shocks(new int[][] {{0, 0}, {0, 9999}, {0, 9998}});
        is("-", x.rate(-9999, -9999), "rate(-9999, -9999)");
        is("-", x.rate(0, 0), "rate(0, 0)");
        is("-", x.rate(9999, 9999), "rate(9999, 9999)");
        is("1", x.rate(9998, 9999), "rate(9998, 9999)");
        is("0", x.rate(-9999, -9998), "rate(-9999, -9998)");
        is("1/9999", x.rate(-9998, 1), "rate(-9998, 1)");
        is("1/9999", x.rate(-9999, 9999), "rate(-9999, 9999) of two");
        int[][] wrong = {{-10000, 0}, {10000, 10000}, {9999, 10000}, {0, 10000}, {1, 0}, {-9998, -9999}, {0, LOW},
            {LOW, LOW}, {HIGH, HIGH}, {LOW, HIGH}};
        for (int[] w : wrong) {
            argument(x, () -> x.rate(w[0], w[1]), "rate(" + w[0] + ", " + w[1] + ")");
            argument(x, () -> x.forecast(w[0], w[1], 1), "forecast(" + w[0] + ", " + w[1] + ", 1)");
        }
    }

    private void forecasts() {
        about("FORECAST: the RATE times a span of minutes, 0 to 9999; not determined if both are the same");
        Quakebook x = new Quakebook();
        for (int k = 0; k < 10; k++) {
            x.tell(0, 500, 0, 0);
        }
        is("99990", x.forecast(500, 501, 9999), "forecast(500, 501, 9999)");
        is("10", x.forecast(500, 501, 1), "forecast(500, 501, 1)");
        is("0", x.forecast(500, 501, 0), "forecast(500, 501, 0)");
        is("0", x.forecast(499, 500, 9999), "forecast(499, 500, 9999)");
        is("5/9999", x.forecast(-9999, 9999, 1), "forecast(-9999, 9999, 1)");
        is("5", x.forecast(-9999, 9999, 9999), "forecast(-9999, 9999, 9999)");
        is("-", x.forecast(500, 500, 0), "forecast(500, 500, 0)");
        is("-", x.forecast(-9999, -9999, 9999), "forecast(-9999, -9999, 9999)");
        for (int span : new int[] {-1, 10000, LOW, HIGH}) {
            argument(x, () -> x.forecast(0, 1, span), "forecast(0, 1, " + span + ")");
            argument(x, () -> x.forecast(0, 0, span), "forecast(0, 0, " + span + ")");
        }
    }

    private void slopes() {
        about("SLOPE: of the SHOCKS whose SIZE is at least that; not determined if that sum is 0");
        Quakebook x = new Quakebook();
        is("-", x.slope(0, 999), "slope(0, 999) without any");
        x.tell(0, 0, 7, 2);
        is("-", x.slope(7, 2), "slope(7, 2) of that SIZE alone");
        is("-", x.slope(14, 4), "slope(14, 4)");
        is("-", x.slope(3501, 999), "slope(3501, 999), a little more");
        x.tell(0, 0, 7, 2);
        is("-", x.slope(7, 2), "slope(7, 2) of two of that SIZE");
        x.tell(0, 0, 4, 1);
        is("6", x.slope(7, 2), "slope(7, 2) of three");
        is("111/55", x.slope(3501, 999), "slope(3501, 999) of one, 495/999 above");
        // 1/1998 above twice, 500/999 above once.
        is("999/167", x.slope(3496, 999), "slope(3496, 999) of all");
    }

    private void greatSizes() {
        about("a FRACTION is told as its top and, if its bottom is not 1, \"/\" and that: also of more than 32 bits");
        // SIZES as great as STRENGTHS and TIMES make them, heard at the other end of the longest WAY.
        Quakebook x = GroundTest.winding(0, 9);
        x.station(89);
        int[] sources = {9, 9, 9, 35};
        int[] times = {61 * 18, 61 * 18, 61 * 18, 57 * 18};
        int[] strengths = {999, 999, 987, 992};
        String[] sizes = {"1097901", "1097901", "1084713", "1018784"};
        for (int shock = 0; shock < 4; shock++) {
            x.tell(sources[shock], 2000 * shock, 0, 0);
            x.arrive(0, 0, 2000 * shock + times[shock], strengths[shock]);
            is(sizes[shock], x.size(shock), "size(" + shock + ")");
        }
        // 4 / (4299299 - 4 * 8101 / 999): the bottom is 2^32 + 1.
        is("3996/4294967297", x.slope(8101, 999), "slope(8101, 999)");
        is("4/4299299", x.slope(0, 999), "slope(0, 999)");
        is("4/4259303", x.slope(9999, 1), "slope(9999, 1)");
        is(0, x.ofCluster(3, 18, 9999, 1), "MAIN of all");
        x.drop(0);
        is(0, x.ofCluster(2, 18, 9999, 1), "MAIN of those left");
        is(2, x.merge(18, 9999), "merge(18, 9999)");
        is("1097901", x.size(0), "size(0) of MAIN");
    }

    private void greatestSlope() {
        about("SLOPE: of as many SHOCKS as there can be, with the greatest SIZE, and bottoms that share nothing");
        Quakebook x = GroundTest.winding(0, 9);
        for (int layer = 0; layer < 8; layer++) {
            x.layer(layer, 1, 9);
        }
        x.tell(9, 100, 0, 0);
        BigInteger sum = BigInteger.ZERO;
        for (int station = 0; station < 6; station++) {
            x.station(89);
            for (int wave = 0; wave < 2; wave++) {
                int strength = wave == 0 ? 999 : 992 + station;
                x.arrive(station, wave, 100 + 61 * 18, strength);
                sum = sum.add(BigInteger.valueOf(strength * (1 + 61 * 18)));
            }
        }
        is(12, x.ofShock(0, 3), "ofShock(0, 3)");
        BigInteger bottom = BigInteger.valueOf(12);
        int[] bottoms = {997, 991, 983, 977, 971, 967, 953, 947, 941};
        for (int k = 0; k < bottoms.length; k++) {
            x.tell(0, 0, 9999 - k, bottoms[k]);
            BigInteger b = BigInteger.valueOf(bottoms[k]);
            sum = sum.multiply(b).add(bottom.multiply(BigInteger.valueOf(9999 - k)));
            bottom = bottom.multiply(b);
        }
        for (int top : new int[] {0, 1, 9000, 9208}) {
            BigInteger least = BigInteger.valueOf(919);
            BigInteger above = sum.multiply(least).subtract(bottom.multiply(BigInteger.valueOf(10 * top)));
            BigInteger many = bottom.multiply(least).multiply(BigInteger.TEN);
            BigInteger divisor = many.gcd(above);
            is(many.divide(divisor) + "/" + above.divide(divisor), x.slope(top, 919), "slope(" + top + ", 919)");
        }
    }

    private void slopeEdges() {
        about("slope(): top 0 to 9999, bottom 1 to 999");
        Quakebook x = new Quakebook();
        x.tell(0, 0, 9999, 1);
        x.tell(0, 0, 1, 999);
        is("-", x.slope(9999, 1), "slope(9999, 1)");
        is("1/9998", x.slope(1, 1), "slope(1, 1)");
        is("999/4994501", x.slope(0, 1), "slope(0, 1)");
        is("999/4994501", x.slope(0, 999), "slope(0, 999)");
        is("999/4994500", x.slope(1, 999), "slope(1, 999)");
        is("111/1108778", x.slope(9999, 999), "slope(9999, 999)");
        int[][] wrong = {{-1, 1}, {10000, 1}, {0, 0}, {0, 1000}, {0, -1}, {LOW, 1}, {HIGH, 1}, {0, LOW}, {0, HIGH}};
        for (int[] w : wrong) {
            argument(x, () -> x.slope(w[0], w[1]), "slope(" + w[0] + ", " + w[1] + ")");
        }
    }

    private void noRulesAtFirst() {
        about("without any ALERT rule");
        Quakebook x = new Quakebook();
        x.tell(0, 0, 9999, 1);
        is(0, x.count(5), "count(5)");
        is("", x.alerts(), "alerts()");
        is(0, x.ofShock(0, 5), "ofShock(0, 5)");
        is(0, x.noRules(), "noRules()");
        is(2, x.count(6), "count(6)");
    }

    private void fourRules() {
        about("ALERT rules, at most 4");
        Quakebook x = new Quakebook();
        x.tell(3, 0, 1, 1);
        for (int k = 0; k < 4; k++) {
            is(k, x.count(5), "count(5)");
            is("", x.alerts(), "alerts()");
            is(k, x.rule(1, 1, k, k), "rule(1, 1, " + k + ", " + k + ")");
        }
        is("0", x.alerts(), "alerts() by the last");
        String before = Books.told(x);
        is(-9, x.rule(0, 1, 0, 11), "rule for the fifth time");
        argument(x, () -> x.rule(0, 0, 0, 11), "rule(0, 0, 0, 11) with four");
        argument(x, () -> x.rule(0, 1, 0, 12), "rule(0, 1, 0, 12) with four");
        is(before, Books.told(x), "what is told behind them");
        x.undo();
        is("", x.alerts(), "alerts() behind undo()");
        is(3, x.rule(0, 1, 11, 3), "rule(0, 1, 11, 3)");
        is("0", x.alerts(), "alerts() again");
        is(4, x.noRules(), "noRules()");
        is("", x.alerts(), "alerts() without");
        is(0, x.rule(0, 1, 3, 3), "rule(0, 1, 3, 3), numbered from 0 again");
        is("0", x.alerts(), "alerts() by it");
    }

    private void ruleEdges() {
        about("rule(): top 0 to 9999, bottom 1 to 999, a COLUMN 0 to 11");
        Quakebook x = new Quakebook();
        is(0, x.rule(0, 1, 0, 0), "rule(0, 1, 0, 0)");
        is(1, x.rule(9999, 999, 11, 11), "rule(9999, 999, 11, 11)");
        int[][] wrong = {{-1, 1, 0, 0}, {10000, 1, 0, 0}, {0, 0, 0, 0}, {0, 1000, 0, 0}, {0, 1, -1, 0}, {0, 1, 12, 0},
            {0, 1, 0, -1}, {0, 1, 0, 12}, {LOW, 1, 0, 0}, {0, HIGH, 0, 0}, {0, 1, HIGH, 0}, {0, 1, 0, LOW}};
        for (int[] w : wrong) {
            argument(x, () -> x.rule(w[0], w[1], w[2], w[3]),
                    "rule(" + w[0] + ", " + w[1] + ", " + w[2] + ", " + w[3] + ")");
        }
        is(2, x.count(5), "count(5)");
    }

    private void alertColumns() {
        about("ALERTS: its cell in the COLUMNS from the smaller to the greater one");
        int[][] columns = {{3, 6}, {6, 3}, {4, 4}, {0, 11}, {11, 0}, {0, 0}, {11, 11}};
        for (int[] c : columns) {
            for (int column = 0; column < 12; column++) {
                Quakebook x = new Quakebook();
                x.tell(12 * (column % 8) + column, 0, 1, 1);
                x.rule(1, 1, c[0], c[1]);
                boolean isIn = column >= Math.min(c[0], c[1]) && column <= Math.max(c[0], c[1]);
                is(isIn ? "0" : "", x.alerts(), "alerts() of " + column + " by " + c[0] + " and " + c[1]);
                is(isIn ? 1 : 0, x.ofShock(0, 5), "ofShock(0, 5)");
            }
        }
    }

    private void alertSizes() {
        about("ALERTS: its SIZE is at least that of a rule");
        Quakebook x = standing(1, 0);
        x.tell(0, 0, 5, 3);
        x.tell(0, 0, 1664, 999);
        x.tell(0, 0, 1666, 999);
        x.tell(0, 500, 0, 0);
        x.rule(5, 3, 0, 0);
        is("0 2", x.alerts(), "alerts()");
        x.arrive(0, 0, 500, 1);
        is("0 2", x.alerts(), "alerts() with a SIZE of 1");
        x.undo();
        x.arrive(0, 0, 500, 2);
        is("0 2 3", x.alerts(), "alerts() with a SIZE of 2");
        x.forget(0);
        is("0 2", x.alerts(), "alerts() without that SIZE");
        x.rule(0, 999, 0, 0);
        is("0 1 2", x.alerts(), "alerts() with a least SIZE of 0");
        // A SHOCK in the COLUMNS of one rule, and as great as another one wants it, does not ALERT.
        Quakebook y = new Quakebook();
        y.tell(5, 0, 3, 1);
        y.rule(4, 1, 5, 5);
        y.rule(1, 1, 6, 7);
        is("", y.alerts(), "alerts() of two rules, each by half");
    }

    private void bookOrder() {
        about("book(): by minute, then cell, then number");
        Quakebook x = shocks(new int[][] {{7, 50}, {3, 50}, {95, 0}, {3, 50}, {0, 9999}, {7, 50}, {4, 49}, {0, 51},
            {94, 0}, {7, 50}});
        is("8@94:0 2@95:0 6@4:49 1@3:50 3@3:50 0@7:50 5@7:50 9@7:50 7@0:51 4@0:9999", x.book(), "book()");
    }

    private void fractions() {
        about("a FRACTION is told as its top and, if its bottom is not 1, \"/\" and that, in lowest terms");
        int[][] sizes = {{4, 2}, {9999, 1}, {9999, 999}, {1, 999}, {999, 999}, {1, 1}, {6, 4}, {9998, 998}, {500, 250},
            {998, 999}};
        String[] due = {"2", "9999", "1111/111", "1/999", "1", "1", "3/2", "4999/499", "2", "998/999"};
        Quakebook x = new Quakebook();
        for (int k = 0; k < 10; k++) {
            x.tell(0, k, sizes[k][0], sizes[k][1]);
            is(due[k], x.size(k), "size(" + k + ")");
        }
        is("1/2", x.rate(0, 20), "rate(0, 20)");
        is("1", x.rate(0, 10), "rate(0, 10)");
        is("10/9999", x.rate(-1, 9998), "rate(-1, 9998)");
        is("0", x.rate(10, 30), "rate(10, 30)");
    }
}
