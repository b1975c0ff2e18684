/**
 * A book of shocks that stations hear through a ground of cells.
 *
 * <p>The words in capitals are those of the document (../shared/DOC.md).
 */
public final class Quakebook {

    private static final int NONE = -1;
    private static final int CAN_NOT = -9;

    private static final int WAVES = 2;
    private static final int LAYERS = 8;
    private static final int COLUMNS = 12;
    private static final int CELLS = LAYERS * COLUMNS;
    private static final int STATIONS = 6;
    private static final int ARRIVALS = 24;
    private static final int SHOCKS = 10;
    private static final int RULES = 4;
    private static final int KEPT_CHANGES = 8;
    private static final int KINDS = STATIONS * WAVES;
    private static final int LATEST = 9999;
    private static final int MOST_ROOM = 18;
    private static final int MOST_TOP = 9999;
    private static final int MOST_BOTTOM = 999;

    private final Page now = new Page();
    private final Page[] past = new Page[KEPT_CHANGES];
    private int nextPast = 0;
    private int kept = 0;
    private int knocks = 0;

    private final Ways ways = new Ways(now.ground);
    private final Locator locator = new Locator(now, ways);
    private final Putting putting = new Putting(now, ways);
    private final Clusters groups = new Clusters(now.shocks, putting);
    // One for both, as it is of use only while a Fit is solved.
    private final Bigs minors = new Bigs(Fit.MINORS);
    private final Fit firstFit = new Fit(now, ways, minors, 0);
    private final Fit secondFit = new Fit(now, ways, minors, 1);
    private final Ratio ratio = new Ratio();
    private final StringBuilder out = new StringBuilder();
    private final int[] order = new int[SHOCKS];
    private final int[] places = new int[STATIONS + SHOCKS];

    /** Creates a ground without stations. */
    public Quakebook() {
        for (int k = 0; k < KEPT_CHANGES; k++) {
            past[k] = new Page();
        }
    }

    // ---- changes

    public int slow(int cell, int wave, int slowness) throws IndexOutOfBoundsException, IllegalArgumentException {
        needNumber(cell, CELLS);
        needNumber(wave, WAVES);
        needRange(slowness, 1, 9);
        keep();
        int before = now.ground.slowness[wave * CELLS + cell];
        now.ground.slowness[wave * CELLS + cell] = slowness;
        ways.groundChanged();
        settle();
        return before;
    }

    public int layer(int layer, int wave, int slowness) throws IndexOutOfBoundsException, IllegalArgumentException {
        needNumber(layer, LAYERS);
        needNumber(wave, WAVES);
        needRange(slowness, 1, 9);
        keep();
        int others = 0;
        int first = wave * CELLS + layer * COLUMNS;
        for (int at = first; at < first + COLUMNS; at++) {
            if (now.ground.slowness[at] != slowness) {
                now.ground.slowness[at] = slowness;
                others++;
            }
        }
        ways.groundChanged();
        settle();
        return others;
    }

    public int wall(int cell, boolean is) throws IndexOutOfBoundsException {
        needNumber(cell, CELLS);
        keep();
        int before = now.ground.walls[cell];
        now.ground.walls[cell] = is ? 1 : 0;
        ways.groundChanged();
        settle();
        return before;
    }

    public int station(int cell) throws IndexOutOfBoundsException {
        needNumber(cell, CELLS);
        if (now.heard.stations >= STATIONS) {
            return CAN_NOT;
        }
        keep();
        int number = now.heard.addStation(cell);
        settle();
        return number;
    }

    public int offset(int station, int minutes) throws IndexOutOfBoundsException, IllegalArgumentException {
        needNumber(station, now.heard.stations);
        needRange(minutes, -99, 99);
        keep();
        int before = now.heard.offsets[station];
        now.heard.offsets[station] = minutes;
        settle();
        return before;
    }

    public int slip(int slip) throws IllegalArgumentException {
        needRange(slip, 0, 9);
        keep();
        int before = now.slip;
        now.slip = slip;
        settle();
        return before;
    }

    public int arrive(int station, int wave, int minute, int strength)
            throws IndexOutOfBoundsException, IllegalArgumentException {
        needNumber(station, now.heard.stations);
        needNumber(wave, WAVES);
        needRange(minute, 0, LATEST);
        needRange(strength, 1, 999);
        if (now.heard.arrivals >= ARRIVALS) {
            return CAN_NOT;
        }
        keep();
        int number = now.heard.addArrival(station, wave, minute, strength);
        settle();
        return number;
    }

    public int forget(int arrival) throws IndexOutOfBoundsException {
        needNumber(arrival, now.heard.arrivals);
        if (now.heard.forgotten[arrival] == 1) {
            return CAN_NOT;
        }
        keep();
        now.heard.forgotten[arrival] = 1;
        now.heard.put[arrival] = NONE;
        settle();
        return now.heard.countRemembered();
    }

    public int gather(int least) throws IllegalArgumentException {
        needRange(least, 2, 8);
        keep();
        int came = locator.gatherAll(least);
        settle();
        return came;
    }

    public int tell(int cell, int minute, int top, int bottom)
            throws IndexOutOfBoundsException, IllegalArgumentException {
        needNumber(cell, CELLS);
        needRange(minute, 0, LATEST);
        needRange(top, 0, MOST_TOP);
        if (top != 0) {
            needRange(bottom, 1, MOST_BOTTOM);
        }
        if (now.shocks.many >= SHOCKS) {
            return CAN_NOT;
        }
        keep();
        int number = now.shocks.add(cell, minute, top, top == 0 ? 0 : bottom);
        settle();
        return number;
    }

    public int drop(int shock) throws IndexOutOfBoundsException {
        needNumber(shock, now.shocks.many);
        keep();
        now.takeOut(shock);
        settle();
        return now.shocks.many;
    }

    public int merge(int room, int time) throws IllegalArgumentException {
        needLinks(room, time);
        keep();
        groups.link(room, time);
        int before = now.shocks.many;
        // From the last one on, so that the numbers of those still to be looked at stay.
        for (int shock = before - 1; shock >= 0; shock--) {
            if (groups.main[shock] != shock) {
                now.takeOut(shock);
            }
        }
        settle();
        return before - now.shocks.many;
    }

    public int rule(int top, int bottom, int one, int other) throws IllegalArgumentException {
        needLeastSize(top, bottom);
        needRange(one, 0, COLUMNS - 1);
        needRange(other, 0, COLUMNS - 1);
        if (now.rules >= RULES) {
            return CAN_NOT;
        }
        keep();
        int number = now.addRule(top, bottom, one, other);
        settle();
        return number;
    }

    public int noRules() {
        keep();
        int before = now.rules;
        now.rules = 0;
        settle();
        return before;
    }

    public int undo() throws IllegalStateException {
        if (kept == 0) {
            throw new IllegalStateException("no change can be undone");
        }
        nextPast = (nextPast + KEPT_CHANGES - 1) % KEPT_CHANGES;
        kept--;
        now.copyFrom(past[nextPast]);
        ways.groundChanged();
        // No TIDYING here: what was put then stands again as it was.
        putting.measure();
        workOut();
        return kept;
    }

    public int knock() {
        knocks++;
        return knocks;
    }

    // ---- what is asked of the ground

    public int ofCell(int cell, int what) throws IndexOutOfBoundsException, IllegalArgumentException {
        needNumber(cell, CELLS);
        needRange(what, 0, 4);
        return answerOfCell(cell, what);
    }

    public int time(int from, int to, int wave) throws IndexOutOfBoundsException {
        needEnds(from, to, wave);
        return ways.least(from, to, wave);
    }

    public String way(int from, int to, int wave) throws IndexOutOfBoundsException {
        needEnds(from, to, wave);
        out.setLength(0);
        ways.walk(from, to, wave);
        for (int k = 0; k < ways.length; k++) {
            appendNext(ways.cells[k]);
        }
        return out.toString();
    }

    public int reach(int from, int wave, int most) throws IndexOutOfBoundsException, IllegalArgumentException {
        needNumber(from, CELLS);
        needNumber(wave, WAVES);
        needRange(most, 0, LATEST);
        int many = 0;
        for (int cell = 0; cell < CELLS; cell++) {
            int least = ways.least(from, cell, wave);
            if (least != NONE && least <= most) {
                many++;
            }
        }
        return many;
    }

    public boolean isProved(int from, int to, int wave) throws IndexOutOfBoundsException {
        needEnds(from, to, wave);
        ways.walk(from, to, wave);
        return ways.length == 0 || ways.isWalkProved(from, wave) && ways.isGroundProved(from, wave);
    }

    // ---- what is asked of arrivals

    public int ofArrival(int arrival, int what) throws IndexOutOfBoundsException, IllegalArgumentException {
        needNumber(arrival, now.heard.arrivals);
        needRange(what, 0, 7);
        return answerOfArrival(arrival, what);
    }

    public int bestCell(int set) throws IllegalArgumentException {
        needSet(set);
        return locator.locate(set) ? locator.cell : NONE;
    }

    public int bestMinute(int set) throws IllegalArgumentException, IllegalStateException {
        needSet(set);
        needBest(set);
        return locator.minute;
    }

    public int misfit(int set) throws IllegalArgumentException, IllegalStateException {
        needSet(set);
        needBest(set);
        return locator.sum;
    }

    public String possible(int set) throws IllegalArgumentException {
        needSet(set);
        out.setLength(0);
        for (int cell = 0; cell < CELLS; cell++) {
            if (locator.isPossible(set, cell)) {
                appendNext(cell);
            }
        }
        return out.toString();
    }

    public int bad(int set) throws IllegalArgumentException {
        needSet(set);
        return locator.badOf(set);
    }

    public int putTo(int shock) throws IndexOutOfBoundsException {
        if (shock == NONE) {
            return now.heard.setOfLeft();
        }
        needNumber(shock, now.shocks.many);
        return now.heard.setPutTo(shock);
    }

    // ---- what is asked of shocks

    public int ofShock(int shock, int what) throws IndexOutOfBoundsException, IllegalArgumentException {
        needNumber(shock, now.shocks.many);
        needRange(what, 0, 5);
        return answerOfShock(shock, what);
    }

    public String size(int shock) throws IndexOutOfBoundsException {
        needNumber(shock, now.shocks.many);
        out.setLength(0);
        appendSize(shock);
        return out.toString();
    }

    public String clusters(int room, int time) throws IllegalArgumentException {
        needLinks(room, time);
        out.setLength(0);
        appendClusters(room, time);
        return out.toString();
    }

    public int ofCluster(int shock, int room, int time, int what)
            throws IndexOutOfBoundsException, IllegalArgumentException {
        needNumber(shock, now.shocks.many);
        needLinks(room, time);
        needRange(what, 0, 5);
        groups.link(room, time);
        return groups.answer(shock, what);
    }

    public String rate(int from, int to) throws IllegalArgumentException {
        needSpan(from, to);
        out.setLength(0);
        appendFraction(now.shocks.countBetween(from, to), to - from);
        return out.toString();
    }

    public String forecast(int from, int to, int span) throws IllegalArgumentException {
        needSpan(from, to);
        needRange(span, 0, 9999);
        out.setLength(0);
        appendFraction(now.shocks.countBetween(from, to) * span, to - from);
        return out.toString();
    }

    public String slope(int top, int bottom) throws IllegalArgumentException {
        needLeastSize(top, bottom);
        out.setLength(0);
        ratio.start();
        int many = 0;
        for (int shock = 0; shock < now.shocks.many; shock++) {
            if (putting.isSizeAtLeast(shock, top, bottom)) {
                ratio.add(putting.sizeTops[shock], putting.sizeBottoms[shock]);
                many++;
            }
        }
        ratio.add(-many * top, bottom);
        if (ratio.isZero()) {
            return "-";
        }
        ratio.divideThis(many);
        ratio.appendTo(out);
        return out.toString();
    }

    public String alerts() {
        out.setLength(0);
        appendAlerts();
        return out.toString();
    }

    public String book() {
        out.setLength(0);
        appendBook();
        return out.toString();
    }

    // ---- the ground made out

    public String made(int wave) throws IndexOutOfBoundsException {
        needNumber(wave, WAVES);
        out.setLength(0);
        solvedFit(wave).appendSlownesses(out, ratio);
        return out.toString();
    }

    public String left(int wave) throws IndexOutOfBoundsException {
        needNumber(wave, WAVES);
        out.setLength(0);
        solvedFit(wave).appendSquares(out, ratio);
        return out.toString();
    }

    public int ofMade(int wave, int what) throws IndexOutOfBoundsException, IllegalArgumentException {
        needNumber(wave, WAVES);
        needRange(what, 0, 2);
        return solvedFit(wave).answer(what);
    }

    // ---- the whole

    public int count(int what) throws IllegalArgumentException {
        needRange(what, 0, 9);
        return answerOfWhole(what);
    }

    public boolean isSound() {
        if (!ways.areSound(places, collectPlaces()) || !putting.isTidy()) {
            return false;
        }
        for (int shock = 0; shock < now.shocks.many; shock++) {
            int set = now.heard.setPutTo(shock);
            if (set != 0 && !(locator.locate(set) && locator.isLeast(set, locator.sum))) {
                return false;
            }
        }
        firstFit.solve();
        secondFit.solve();
        return firstFit.isBalanced() && secondFit.isBalanced();
    }

    public long digest() {
        long d = 6601;
        for (int what = 0; what < 10; what++) {
            d = d * 31 + answerOfWhole(what);
        }
        for (int cell = 0; cell < CELLS; cell++) {
            for (int what = 0; what < 5; what++) {
                d = d * 31 + answerOfCell(cell, what);
            }
        }
        for (int arrival = 0; arrival < now.heard.arrivals; arrival++) {
            for (int what = 0; what < 8; what++) {
                d = d * 31 + answerOfArrival(arrival, what);
            }
        }
        d = digestBook(digestShocks(d));
        for (int wave = 0; wave < WAVES; wave++) {
            out.setLength(0);
            solvedFit(wave).appendSlownesses(out, ratio);
            d = d * 31 + out.length();
        }
        for (int wave = 0; wave < WAVES; wave++) {
            out.setLength(0);
            solvedFit(wave).appendSquares(out, ratio);
            d = d * 31 + out.length();
        }
        return d * 31 + (isSound() ? 1 : 0);
    }

    // ---- what a call needs of its arguments

    private static void needNumber(int number, int many) {
        if (number < 0 || number >= many) {
            throw new IndexOutOfBoundsException("there is no such number");
        }
    }

    private static void needRange(int value, int least, int most) {
        if (value < least || value > most) {
            throw new IllegalArgumentException("out of its range");
        }
    }

    private static void needEnds(int from, int to, int wave) {
        needNumber(from, CELLS);
        needNumber(to, CELLS);
        needNumber(wave, WAVES);
    }

    private static void needLinks(int room, int time) {
        needRange(room, 0, MOST_ROOM);
        needRange(time, 0, LATEST);
    }

    private static void needLeastSize(int top, int bottom) {
        needRange(top, 0, MOST_TOP);
        needRange(bottom, 1, MOST_BOTTOM);
    }

    private static void needSpan(int from, int to) {
        needRange(from, -LATEST, LATEST);
        needRange(to, from, LATEST);
    }

    private void needSet(int set) {
        if (set <= 0 || (set & ~now.heard.setRemembered()) != 0) {
            throw new IllegalArgumentException("no set of arrivals that count");
        }
    }

    private void needBest(int set) {
        if (!locator.locate(set)) {
            throw new IllegalStateException("no cell is theirs all");
        }
    }

    // ---- what all changes do

    private void keep() {
        past[nextPast].copyFrom(now);
        nextPast = (nextPast + 1) % KEPT_CHANGES;
        kept = Math.min(kept + 1, KEPT_CHANGES);
    }

    private void settle() {
        putting.measure();
        putting.tidy();
        workOut();
    }

    private void workOut() {
        putting.weigh();
        firstFit.isSolved = false;
        secondFit.isSolved = false;
    }

    private Fit solvedFit(int wave) {
        Fit fit = wave == 0 ? firstFit : secondFit;
        fit.solve();
        return fit;
    }

    // ---- answers that digest() asks too

    private int answerOfWhole(int what) {
        switch (what) {
            case 0:
                return now.heard.stations;
            case 1:
                return now.heard.countRemembered();
            case 2:
                return now.heard.arrivals;
            case 3:
                return Integer.bitCount(now.heard.setOfLeft());
            case 4:
                return now.shocks.many;
            case 5:
                return now.rules;
            case 6:
                return kept;
            case 7:
                return knocks;
            case 8:
                return now.slip;
            default:
                return now.ground.countWalls();
        }
    }

    private int answerOfCell(int cell, int what) {
        switch (what) {
            case 0:
                return now.ground.slowness[cell];
            case 1:
                return now.ground.slowness[CELLS + cell];
            case 2:
                return now.ground.walls[cell];
            case 3:
                return now.heard.countStationsIn(cell);
            default:
                return now.shocks.countIn(cell);
        }
    }

    private int answerOfArrival(int arrival, int what) {
        switch (what) {
            case 0:
                return now.heard.stationOf[arrival];
            case 1:
                return now.heard.waveOf[arrival];
            case 2:
                return now.heard.minuteOf[arrival];
            case 3:
                return now.heard.strengthOf[arrival];
            case 4:
                return now.heard.hour(arrival);
            case 5:
                return now.heard.put[arrival];
            case 6:
                return putting.misfitOfPut(arrival);
            default:
                return now.heard.forgotten[arrival];
        }
    }

    private int answerOfShock(int shock, int what) {
        switch (what) {
            case 0:
                return now.shocks.cells[shock];
            case 1:
                return now.shocks.minutes[shock];
            case 2:
                return now.shocks.isTold(shock) ? 1 : 0;
            case 3:
                return Integer.bitCount(now.heard.setPutTo(shock));
            case 4:
                return putting.sumOfMisfits(shock);
            default:
                return isAlerting(shock) ? 1 : 0;
        }
    }

    private boolean isAlerting(int shock) {
        int column = now.shocks.cells[shock] % COLUMNS;
        for (int rule = 0; rule < now.rules; rule++) {
            if (column >= now.ruleFrom[rule] && column <= now.ruleTo[rule]
                    && putting.isSizeAtLeast(shock, now.ruleTops[rule], now.ruleBottoms[rule])) {
                return true;
            }
        }
        return false;
    }

    private long digestShocks(long before) {
        long d = before;
        for (int shock = 0; shock < now.shocks.many; shock++) {
            for (int what = 0; what < 6; what++) {
                d = d * 31 + answerOfShock(shock, what);
            }
            out.setLength(0);
            appendSize(shock);
            d = d * 31 + out.length();
        }
        return d;
    }

    private long digestBook(long before) {
        out.setLength(0);
        appendClusters(2, 100);
        long d = before * 31 + out.length();
        out.setLength(0);
        appendAlerts();
        d = d * 31 + out.length();
        out.setLength(0);
        appendBook();
        return d * 31 + out.length();
    }

    // ---- texts

    private void appendNext(int number) {
        if (out.length() > 0) {
            out.append(' ');
        }
        out.append(number);
    }

    private void appendFraction(int top, int bottom) {
        if (bottom == 0) {
            out.append('-');
            return;
        }
        int divisor = gcd(top, bottom);
        if (divisor == 0) {
            return;
        }
        out.append(top / divisor);
        if (bottom != divisor) {
            out.append('/').append(bottom / divisor);
        }
    }

    private static int gcd(int one, int other) {
        int a = one;
        int b = other;
        for (int k = 0; k < 1000 && b != 0; k++) {
            int rest = a % b;
            a = b;
            b = rest;
        }
        return a;
    }

    private void appendSize(int shock) {
        appendFraction(putting.sizeTops[shock], putting.sizeBottoms[shock]);
    }

    private void appendClusters(int room, int time) {
        groups.link(room, time);
        for (int first = 0; first < now.shocks.many; first++) {
            if (groups.first[first] == first) {
                appendNext(first);
                for (int shock = first + 1; shock < now.shocks.many; shock++) {
                    if (groups.first[shock] == first) {
                        out.append(',').append(shock);
                    }
                }
            }
        }
    }

    private void appendAlerts() {
        for (int shock = 0; shock < now.shocks.many; shock++) {
            if (isAlerting(shock)) {
                appendNext(shock);
            }
        }
    }

    private void appendBook() {
        orderByMinute();
        for (int k = 0; k < now.shocks.many; k++) {
            int shock = order[k];
            appendNext(shock);
            out.append('@').append(now.shocks.cells[shock]);
            out.append(':').append(now.shocks.minutes[shock]);
        }
    }

    private void orderByMinute() {
        for (int shock = 0; shock < now.shocks.many; shock++) {
            int at = shock;
            for (; at > 0 && now.shocks.isAhead(shock, order[at - 1]); at--) {
                order[at] = order[at - 1];
            }
            order[at] = shock;
        }
    }

    // ---- soundness

    private int collectPlaces() {
        int many = 0;
        for (int cell = 0; cell < CELLS && many < places.length; cell++) {
            if (now.heard.countStationsIn(cell) > 0 || now.shocks.countIn(cell) > 0) {
                places[many] = cell;
                many++;
            }
        }
        return many;
    }

    /** The SLOWNESSES and WALLS. */
    private static final class Ground {
        final int[] slowness = new int[WAVES * CELLS];
        final int[] walls = new int[CELLS];

        Ground() {
            for (int cell = 0; cell < CELLS; cell++) {
                slowness[cell] = 3;
                slowness[CELLS + cell] = 5;
            }
        }

        void copyFrom(Ground other) {
            System.arraycopy(other.slowness, 0, slowness, 0, WAVES * CELLS);
            System.arraycopy(other.walls, 0, walls, 0, CELLS);
        }

        int countWalls() {
            int many = 0;
            for (int cell = 0; cell < CELLS; cell++) {
                many += walls[cell];
            }
            return many;
        }
    }

    /** The STATIONS and ARRIVALS, and to which SHOCK each ARRIVAL is put. */
    private static final class Heard {
        int stations = 0;
        final int[] cells = new int[STATIONS];
        final int[] offsets = new int[STATIONS];
        int arrivals = 0;
        final int[] stationOf = new int[ARRIVALS];
        final int[] waveOf = new int[ARRIVALS];
        final int[] minuteOf = new int[ARRIVALS];
        final int[] strengthOf = new int[ARRIVALS];
        final int[] forgotten = new int[ARRIVALS];
        final int[] put = new int[ARRIVALS];

        void copyFrom(Heard other) {
            stations = other.stations;
            System.arraycopy(other.cells, 0, cells, 0, STATIONS);
            System.arraycopy(other.offsets, 0, offsets, 0, STATIONS);
            arrivals = other.arrivals;
            System.arraycopy(other.stationOf, 0, stationOf, 0, ARRIVALS);
            System.arraycopy(other.waveOf, 0, waveOf, 0, ARRIVALS);
            System.arraycopy(other.minuteOf, 0, minuteOf, 0, ARRIVALS);
            System.arraycopy(other.strengthOf, 0, strengthOf, 0, ARRIVALS);
            System.arraycopy(other.forgotten, 0, forgotten, 0, ARRIVALS);
            System.arraycopy(other.put, 0, put, 0, ARRIVALS);
        }

        int addStation(int cell) {
            int number = stations;
            cells[number] = cell;
            offsets[number] = 0;
            stations++;
            return number;
        }

        int addArrival(int station, int wave, int minute, int strength) {
            int number = arrivals;
            stationOf[number] = station;
            waveOf[number] = wave;
            minuteOf[number] = minute;
            strengthOf[number] = strength;
            forgotten[number] = 0;
            put[number] = NONE;
            arrivals++;
            return number;
        }

        int hour(int arrival) {
            return minuteOf[arrival] - offsets[stationOf[arrival]];
        }

        int cellOf(int arrival) {
            return cells[stationOf[arrival]];
        }

        /** One number for each STATION and WAVE, as no two of one kind are put to one SHOCK. */
        int kind(int arrival) {
            return stationOf[arrival] * WAVES + waveOf[arrival];
        }

        boolean isLeft(int arrival) {
            return forgotten[arrival] == 0 && put[arrival] == NONE;
        }

        int countRemembered() {
            return Integer.bitCount(setRemembered());
        }

        int countStationsIn(int cell) {
            int many = 0;
            for (int station = 0; station < stations; station++) {
                if (cells[station] == cell) {
                    many++;
                }
            }
            return many;
        }

        int setRemembered() {
            int set = 0;
            for (int arrival = 0; arrival < arrivals; arrival++) {
                if (forgotten[arrival] == 0) {
                    set |= 1 << arrival;
                }
            }
            return set;
        }

        int setOfLeft() {
            int set = 0;
            for (int arrival = 0; arrival < arrivals; arrival++) {
                if (isLeft(arrival)) {
                    set |= 1 << arrival;
                }
            }
            return set;
        }

        int setPutTo(int shock) {
            int set = 0;
            for (int arrival = 0; arrival < arrivals; arrival++) {
                if (put[arrival] == shock) {
                    set |= 1 << arrival;
                }
            }
            return set;
        }

        void shockIsGone(int shock) {
            for (int arrival = 0; arrival < arrivals; arrival++) {
                if (put[arrival] == shock) {
                    put[arrival] = NONE;
                } else if (put[arrival] > shock) {
                    put[arrival]--;
                }
            }
        }
    }

    /** The SHOCKS; a told SIZE has a top above 0. */
    private static final class Shocks {
        int many = 0;
        final int[] cells = new int[SHOCKS];
        final int[] minutes = new int[SHOCKS];
        final int[] tops = new int[SHOCKS];
        final int[] bottoms = new int[SHOCKS];

        void copyFrom(Shocks other) {
            many = other.many;
            System.arraycopy(other.cells, 0, cells, 0, SHOCKS);
            System.arraycopy(other.minutes, 0, minutes, 0, SHOCKS);
            System.arraycopy(other.tops, 0, tops, 0, SHOCKS);
            System.arraycopy(other.bottoms, 0, bottoms, 0, SHOCKS);
        }

        int add(int cell, int minute, int top, int bottom) {
            int number = many;
            cells[number] = cell;
            minutes[number] = minute;
            tops[number] = top;
            bottoms[number] = bottom;
            many++;
            return number;
        }

        void moveUpBehind(int shock) {
            for (int k = shock + 1; k < many; k++) {
                cells[k - 1] = cells[k];
                minutes[k - 1] = minutes[k];
                tops[k - 1] = tops[k];
                bottoms[k - 1] = bottoms[k];
            }
            many--;
        }

        boolean isTold(int shock) {
            return tops[shock] > 0;
        }

        int countIn(int cell) {
            int found = 0;
            for (int shock = 0; shock < many; shock++) {
                if (cells[shock] == cell) {
                    found++;
                }
            }
            return found;
        }

        int countBetween(int from, int to) {
            int found = 0;
            for (int shock = 0; shock < many; shock++) {
                if (minutes[shock] >= from && minutes[shock] < to) {
                    found++;
                }
            }
            return found;
        }

        /** Whether a later SHOCK stands ahead of an earlier one in the book. */
        boolean isAhead(int later, int earlier) {
            if (minutes[later] != minutes[earlier]) {
                return minutes[later] < minutes[earlier];
            }
            return cells[later] < cells[earlier];
        }
    }

    /** All that a CHANGE changes, so that it can be kept and UNDONE as one. */
    private static final class Page {
        final Ground ground = new Ground();
        final Heard heard = new Heard();
        final Shocks shocks = new Shocks();
        int slip = 3;
        int rules = 0;
        final int[] ruleTops = new int[RULES];
        final int[] ruleBottoms = new int[RULES];
        final int[] ruleFrom = new int[RULES];
        final int[] ruleTo = new int[RULES];

        void copyFrom(Page other) {
            ground.copyFrom(other.ground);
            heard.copyFrom(other.heard);
            shocks.copyFrom(other.shocks);
            slip = other.slip;
            rules = other.rules;
            System.arraycopy(other.ruleTops, 0, ruleTops, 0, RULES);
            System.arraycopy(other.ruleBottoms, 0, ruleBottoms, 0, RULES);
            System.arraycopy(other.ruleFrom, 0, ruleFrom, 0, RULES);
            System.arraycopy(other.ruleTo, 0, ruleTo, 0, RULES);
        }

        void takeOut(int shock) {
            shocks.moveUpBehind(shock);
            heard.shockIsGone(shock);
        }

        int addRule(int top, int bottom, int one, int other) {
            int number = rules;
            ruleTops[number] = top;
            ruleBottoms[number] = bottom;
            ruleFrom[number] = Math.min(one, other);
            ruleTo[number] = Math.max(one, other);
            rules++;
            return number;
        }
    }

    /**
     * TIMES and WAYS. The TIMES from a cell are made out when they are first asked for on this ground, and kept in
     * a row till so many others were needed that it is used again.
     */
    private static final class Ways {
        private static final int SIDES = 4;
        // Enough for all STATIONS and SHOCKS at once, in both WAVES.
        private static final int ROWS = (STATIONS + SHOCKS) * WAVES + 8;

        private final Ground ground;
        private final int[] near = new int[CELLS * SIDES];
        private final int[] times = new int[ROWS * CELLS];
        private final int[] rowOfSource = new int[WAVES * CELLS];
        private final int[] sourceOfRow = new int[ROWS];
        private int nextRow = 0;
        final int[] cells = new int[CELLS];
        int length = 0;

        Ways(Ground ground) {
            this.ground = ground;
            // Rising by number, so that the first that serves is the smallest.
            for (int cell = 0; cell < CELLS; cell++) {
                int column = cell % COLUMNS;
                near[cell * SIDES] = cell >= COLUMNS ? cell - COLUMNS : NONE;
                near[cell * SIDES + 1] = column > 0 ? cell - 1 : NONE;
                near[cell * SIDES + 2] = column < COLUMNS - 1 ? cell + 1 : NONE;
                near[cell * SIDES + 3] = cell < CELLS - COLUMNS ? cell + COLUMNS : NONE;
            }
            for (int row = 0; row < ROWS; row++) {
                sourceOfRow[row] = NONE;
            }
        }

        void groundChanged() {
            for (int row = 0; row < ROWS; row++) {
                sourceOfRow[row] = NONE;
            }
        }

        int least(int from, int to, int wave) {
            return times[rowOf(from, wave) + to];
        }

        /** Where the TIMES from a cell begin; only till the next call, which may use that row for another cell. */
        private int rowOf(int from, int wave) {
            int source = wave * CELLS + from;
            int row = rowOfSource[source];
            if (sourceOfRow[row] != source) {
                row = nextRow;
                nextRow = (nextRow + 1) % ROWS;
                rowOfSource[source] = row;
                sourceOfRow[row] = source;
                begin(row * CELLS, from);
                spread(row * CELLS, wave);
            }
            return row * CELLS;
        }

        private void begin(int row, int from) {
            for (int cell = 0; cell < CELLS; cell++) {
                times[row + cell] = NONE;
            }
            if (ground.walls[from] == 0) {
                times[row + from] = 0;
            }
        }

        private void spread(int row, int wave) {
            boolean isShorter = true;
            // No WAY has more STEPS than there are cells; up and down in turn, as WAYS go both ways.
            for (int sweep = 0; sweep <= CELLS && isShorter; sweep++) {
                isShorter = false;
                for (int k = 0; k < CELLS * SIDES; k++) {
                    int at = sweep % 2 == 0 ? k : CELLS * SIDES - 1 - k;
                    int cell = at / SIDES;
                    int next = near[at];
                    if (next != NONE && times[row + cell] != NONE && ground.walls[next] == 0) {
                        int sum = times[row + cell]
                                + ground.slowness[wave * CELLS + cell] + ground.slowness[wave * CELLS + next];
                        if (times[row + next] == NONE || sum < times[row + next]) {
                            times[row + next] = sum;
                            isShorter = true;
                        }
                    }
                }
            }
        }

        private int step(int from, int to, int wave) {
            return ground.slowness[wave * CELLS + from] + ground.slowness[wave * CELLS + to];
        }

        /** Leaves the WAY in cells and length; no length if there is none. */
        void walk(int from, int to, int wave) {
            // The TIMES from its end are those to its end, as a STEP takes as long both ways.
            int row = rowOf(to, wave);
            length = 0;
            if (times[row + from] == NONE) {
                return;
            }
            int cell = from;
            for (int k = 0; k < CELLS; k++) {
                cells[k] = cell;
                length = k + 1;
                if (cell == to) {
                    return;
                }
                cell = nextOf(cell, row, wave);
            }
        }

        private int nextOf(int cell, int row, int wave) {
            for (int side = 0; side < SIDES; side++) {
                int next = near[cell * SIDES + side];
                if (next != NONE && times[row + next] != NONE
                        && times[row + next] + step(cell, next, wave) == times[row + cell]) {
                    return next;
                }
            }
            return cell;
        }

        /** Whether the TIMES from a cell grow by the STEPS of what was walked last. */
        boolean isWalkProved(int from, int wave) {
            int row = rowOf(from, wave);
            for (int k = 1; k < length; k++) {
                if (times[row + cells[k]] != times[row + cells[k - 1]] + step(cells[k - 1], cells[k], wave)) {
                    return false;
                }
            }
            return true;
        }

        boolean isGroundProved(int from, int wave) {
            int row = rowOf(from, wave);
            for (int cell = 0; cell < CELLS; cell++) {
                for (int side = 0; side < SIDES; side++) {
                    int other = near[cell * SIDES + side];
                    if (other != NONE && !isPairProved(row, cell, other, wave)) {
                        return false;
                    }
                }
            }
            return true;
        }

        private boolean isPairProved(int row, int cell, int other, int wave) {
            if (ground.walls[cell] == 1 || ground.walls[other] == 1 || times[row + cell] == NONE) {
                return true;
            }
            return times[row + other] != NONE
                    && Math.abs(times[row + cell] - times[row + other]) <= step(cell, other, wave);
        }

        boolean areSound(int[] places, int many) {
            for (int wave = 0; wave < WAVES; wave++) {
                for (int k = 0; k < many; k++) {
                    int from = places[k];
                    if (!isGroundProved(from, wave)) {
                        return false;
                    }
                    for (int j = 0; j < many; j++) {
                        int to = places[j];
                        walk(from, to, wave);
                        if (!isWalkProved(from, wave) || least(from, to, wave) != least(to, from, wave)
                                || !isShortest(from, to, wave, places, many)) {
                            return false;
                        }
                    }
                }
            }
            return true;
        }

        private boolean isShortest(int from, int to, int wave, int[] places, int many) {
            int straight = least(from, to, wave);
            for (int k = 0; k < many; k++) {
                int first = least(from, places[k], wave);
                int second = least(places[k], to, wave);
                if (first != NONE && second != NONE && (straight == NONE || straight > first + second)) {
                    return false;
                }
            }
            return true;
        }
    }

    /** Where ARRIVALS came from: BEST, POSSIBLE cells, BAD sets, and what is GATHERED. */
    private static final class Locator {
        private final Page page;
        private final Ways ways;
        private final int[] starts = new int[ARRIVALS];
        private final int[] who = new int[ARRIVALS];
        private int many = 0;
        private final int[] nearest = new int[KINDS];
        private final int[] nearestMisfit = new int[KINDS];
        private int counted = 0;
        private int countedSum = 0;
        private int most = 0;
        int cell = NONE;
        int minute = 0;
        int sum = 0;

        Locator(Page page, Ways ways) {
            this.page = page;
            this.ways = ways;
        }

        /**
         * Leaves the minutes at which those of a set would have started from a cell.
         * Gives back whether the cell is no one's for none of them.
         */
        private boolean collect(int set, int from) {
            boolean areAll = true;
            many = 0;
            for (int arrival = 0; arrival < page.heard.arrivals; arrival++) {
                if ((set >> arrival & 1) != 0) {
                    int least = ways.least(page.heard.cellOf(arrival), from, page.heard.waveOf[arrival]);
                    if (least == NONE) {
                        areAll = false;
                    } else {
                        starts[many] = page.heard.hour(arrival) - least;
                        who[many] = arrival;
                        many++;
                    }
                }
            }
            return areAll;
        }

        private void sortStarts() {
            for (int k = 1; k < many; k++) {
                int start = starts[k];
                int at = k;
                for (; at > 0 && starts[at - 1] > start; at--) {
                    starts[at] = starts[at - 1];
                }
                starts[at] = start;
            }
        }

        private int sumAt(int start) {
            int total = 0;
            for (int k = 0; k < many; k++) {
                total += Math.abs(starts[k] - start);
            }
            return total;
        }

        /** Leaves BEST in cell, minute and sum, if there is one. */
        boolean locate(int set) {
            cell = NONE;
            for (int from = 0; from < CELLS; from++) {
                if (collect(set, from) && many > 0) {
                    sortStarts();
                    // Of all minutes with the least sum the smallest is the smaller one in the middle.
                    int middle = starts[(many - 1) / 2];
                    int total = sumAt(middle);
                    if (cell == NONE || total < sum) {
                        cell = from;
                        minute = middle;
                        sum = total;
                    }
                }
            }
            return cell != NONE;
        }

        /** Whether no cell has a smaller sum; the least of a cell is always at one of the starts too. */
        boolean isLeast(int set, int total) {
            for (int from = 0; from < CELLS; from++) {
                if (collect(set, from)) {
                    for (int k = 0; k < many; k++) {
                        if (sumAt(starts[k]) < total) {
                            return false;
                        }
                    }
                }
            }
            return true;
        }

        boolean isPossible(int set, int from) {
            return collect(set, from) && areWithinSlip();
        }

        private boolean areWithinSlip() {
            if (many == 0) {
                return true;
            }
            int first = starts[0];
            int last = starts[0];
            for (int k = 1; k < many; k++) {
                first = Math.min(first, starts[k]);
                last = Math.max(last, starts[k]);
            }
            return last - first <= 2 * page.slip;
        }

        private boolean isAnyPossible(int set) {
            for (int from = 0; from < CELLS; from++) {
                if (collect(set, from) && areWithinSlip()) {
                    return true;
                }
            }
            return false;
        }

        int badOf(int set) {
            if (isAnyPossible(set)) {
                return 0;
            }
            int rest = set;
            for (int arrival = ARRIVALS - 1; arrival >= 0; arrival--) {
                int without = rest & ~(1 << arrival);
                if (without != rest && !isAnyPossible(without)) {
                    rest = without;
                }
            }
            return rest;
        }

        int gatherAll(int least) {
            int came = 0;
            for (int free = SHOCKS - page.shocks.many; came < free; came++) {
                int set = page.heard.setOfLeft();
                findMost(set);
                if (most < least) {
                    return came;
                }
                putMost(set);
            }
            return came;
        }

        private void findMost(int set) {
            most = 0;
            for (int from = 0; from < CELLS; from++) {
                collect(set, from);
                // Between these minutes none comes or goes, and the sum bends only downwards.
                for (int k = 0; k < many; k++) {
                    tryMinute(from, starts[k] - page.slip);
                    tryMinute(from, starts[k]);
                    tryMinute(from, starts[k] + page.slip);
                }
            }
        }

        private void tryMinute(int from, int start) {
            // Most minutes drop out here, ahead of the long count.
            if (countWithinSlip(start) < most) {
                return;
            }
            countNearest(start);
            if (counted > most
                    || counted == most && countedSum < sum
                    || counted == most && countedSum == sum && from == cell && start < minute) {
                most = counted;
                sum = countedSum;
                cell = from;
                minute = start;
            }
        }

        private int countWithinSlip(int start) {
            int within = 0;
            for (int k = 0; k < many; k++) {
                if (Math.abs(starts[k] - start) <= page.slip) {
                    within++;
                }
            }
            return within;
        }

        /** Leaves the nearest one of each kind, how many these are, and the sum of their MISFITS. */
        private void countNearest(int start) {
            for (int kind = 0; kind < KINDS; kind++) {
                nearest[kind] = NONE;
            }
            counted = 0;
            countedSum = 0;
            for (int k = 0; k < many; k++) {
                int misfit = Math.abs(starts[k] - start);
                int kind = page.heard.kind(who[k]);
                if (misfit <= page.slip && (nearest[kind] == NONE || misfit < nearestMisfit[kind])) {
                    if (nearest[kind] == NONE) {
                        counted++;
                    } else {
                        countedSum -= nearestMisfit[kind];
                    }
                    countedSum += misfit;
                    nearest[kind] = who[k];
                    nearestMisfit[kind] = misfit;
                }
            }
        }

        private void putMost(int set) {
            collect(set, cell);
            countNearest(minute);
            int shock = page.shocks.add(cell, minute, 0, 0);
            for (int kind = 0; kind < KINDS; kind++) {
                if (nearest[kind] != NONE) {
                    page.heard.put[nearest[kind]] = shock;
                }
            }
        }
    }

    /** How ARRIVALS FIT SHOCKS, to which they are put, and the SIZES that come of it. */
    private static final class Putting {
        private final Page page;
        private final Ways ways;
        private final int[] times = new int[ARRIVALS * SHOCKS];
        private final int[] misfits = new int[ARRIVALS * SHOCKS];
        final int[] sizeTops = new int[SHOCKS];
        /** 0 for a SIZE that is not determined. */
        final int[] sizeBottoms = new int[SHOCKS];

        Putting(Page page, Ways ways) {
            this.page = page;
            this.ways = ways;
        }

        void measure() {
            for (int arrival = 0; arrival < page.heard.arrivals; arrival++) {
                int from = page.heard.cellOf(arrival);
                int wave = page.heard.waveOf[arrival];
                for (int shock = 0; shock < page.shocks.many; shock++) {
                    int time = ways.least(from, page.shocks.cells[shock], wave);
                    int start = page.heard.hour(arrival) - time;
                    times[arrival * SHOCKS + shock] = time;
                    misfits[arrival * SHOCKS + shock] =
                            time == NONE ? NONE : Math.abs(start - page.shocks.minutes[shock]);
                }
            }
        }

        void tidy() {
            for (int arrival = 0; arrival < page.heard.arrivals; arrival++) {
                int shock = page.heard.put[arrival];
                if (shock != NONE && !isFitting(arrival, shock)) {
                    page.heard.put[arrival] = NONE;
                }
            }
            for (int arrival = 0; arrival < page.heard.arrivals; arrival++) {
                if (page.heard.isLeft(arrival)) {
                    page.heard.put[arrival] = firstOpen(arrival);
                }
            }
        }

        void weigh() {
            for (int shock = 0; shock < page.shocks.many; shock++) {
                sizeTops[shock] = page.shocks.tops[shock];
                sizeBottoms[shock] = page.shocks.bottoms[shock];
                if (!page.shocks.isTold(shock)) {
                    weighPut(shock);
                }
            }
        }

        private void weighPut(int shock) {
            for (int arrival = 0; arrival < page.heard.arrivals; arrival++) {
                if (page.heard.put[arrival] == shock) {
                    sizeTops[shock] += page.heard.strengthOf[arrival] * (1 + times[arrival * SHOCKS + shock]);
                    sizeBottoms[shock]++;
                }
            }
        }

        private boolean isFitting(int arrival, int shock) {
            int misfit = misfits[arrival * SHOCKS + shock];
            return misfit != NONE && misfit <= page.slip;
        }

        private boolean hasOtherOfKind(int shock, int arrival) {
            for (int other = 0; other < page.heard.arrivals; other++) {
                if (other != arrival && page.heard.put[other] == shock
                        && page.heard.kind(other) == page.heard.kind(arrival)) {
                    return true;
                }
            }
            return false;
        }

        /** The first SHOCK that would take an ARRIVAL. */
        private int firstOpen(int arrival) {
            for (int shock = 0; shock < page.shocks.many; shock++) {
                if (isFitting(arrival, shock) && !hasOtherOfKind(shock, arrival)) {
                    return shock;
                }
            }
            return NONE;
        }

        boolean isTidy() {
            for (int arrival = 0; arrival < page.heard.arrivals; arrival++) {
                int shock = page.heard.put[arrival];
                if (shock != NONE && (!isFitting(arrival, shock) || hasOtherOfKind(shock, arrival))) {
                    return false;
                }
                if (page.heard.isLeft(arrival) && firstOpen(arrival) != NONE) {
                    return false;
                }
            }
            return true;
        }

        int misfitOfPut(int arrival) {
            int shock = page.heard.put[arrival];
            return shock == NONE ? NONE : misfits[arrival * SHOCKS + shock];
        }

        int sumOfMisfits(int shock) {
            int sum = 0;
            for (int arrival = 0; arrival < page.heard.arrivals; arrival++) {
                if (page.heard.put[arrival] == shock) {
                    sum += misfits[arrival * SHOCKS + shock];
                }
            }
            return sum;
        }

        boolean isSizeAtLeast(int shock, int top, int bottom) {
            return sizeBottoms[shock] != 0 && (long) sizeTops[shock] * bottom >= (long) top * sizeBottoms[shock];
        }

        int compareSizes(int one, int other) {
            if (sizeBottoms[one] == 0 || sizeBottoms[other] == 0) {
                return Integer.compare(sizeBottoms[one], sizeBottoms[other]);
            }
            return Long.compare((long) sizeTops[one] * sizeBottoms[other], (long) sizeTops[other] * sizeBottoms[one]);
        }
    }

    /** CLUSTERS by a room and a time. */
    private static final class Clusters {
        private final Shocks shocks;
        private final Putting putting;
        /** For each SHOCK the smallest number in its CLUSTER. */
        final int[] first = new int[SHOCKS];
        final int[] main = new int[SHOCKS];

        Clusters(Shocks shocks, Putting putting) {
            this.shocks = shocks;
            this.putting = putting;
        }

        void link(int room, int time) {
            for (int shock = 0; shock < shocks.many; shock++) {
                first[shock] = shock;
            }
            boolean isMoving = true;
            // Each round brings the smallest number at least one LINK further.
            for (int round = 0; round < SHOCKS && isMoving; round++) {
                isMoving = false;
                for (int one = 0; one < shocks.many; one++) {
                    for (int other = 0; other < shocks.many; other++) {
                        if (first[other] < first[one] && isLinked(one, other, room, time)) {
                            first[one] = first[other];
                            isMoving = true;
                        }
                    }
                }
            }
            for (int shock = 0; shock < shocks.many; shock++) {
                main[shock] = mainOf(shock);
            }
        }

        private boolean isLinked(int one, int other, int room, int time) {
            int a = shocks.cells[one];
            int b = shocks.cells[other];
            int apart = Math.abs(a / COLUMNS - b / COLUMNS) + Math.abs(a % COLUMNS - b % COLUMNS);
            return apart <= room && Math.abs(shocks.minutes[one] - shocks.minutes[other]) <= time;
        }

        private int mainOf(int shock) {
            int best = first[shock];
            for (int other = best + 1; other < shocks.many; other++) {
                if (first[other] == first[shock] && isGreater(other, best)) {
                    best = other;
                }
            }
            return best;
        }

        private boolean isGreater(int later, int earlier) {
            int bySize = putting.compareSizes(later, earlier);
            return bySize > 0 || bySize == 0 && shocks.minutes[later] < shocks.minutes[earlier];
        }

        int answer(int shock, int what) {
            int mainMinute = shocks.minutes[main[shock]];
            int many = 0;
            int sooner = 0;
            int later = 0;
            int smallest = mainMinute;
            int greatest = mainMinute;
            for (int other = 0; other < shocks.many; other++) {
                if (first[other] == first[shock]) {
                    int minute = shocks.minutes[other];
                    many++;
                    sooner += minute < mainMinute ? 1 : 0;
                    later += minute > mainMinute ? 1 : 0;
                    smallest = Math.min(smallest, minute);
                    greatest = Math.max(greatest, minute);
                }
            }
            switch (what) {
                case 0:
                    return many;
                case 1:
                    return main[shock];
                case 2:
                    return sooner;
                case 3:
                    return later;
                case 4:
                    return smallest;
                default:
                    return greatest;
            }
        }
    }

    /**
     * The ground made out for a WAVE, by Cramer's rule on the products of the equations' columns with one another:
     * whole numbers all the way, so that nothing is rounded.
     */
    private static final class Fit {
        private static final int WIDTH = LAYERS + 1;
        static final int MINORS = 1 << WIDTH;
        private static final int WHOLE = WIDTH;
        private static final int SPARE = WIDTH + 1;

        private final Page page;
        private final Ways ways;
        private final Bigs minors;
        private final int wave;
        boolean isSolved = false;
        private int equations = 0;
        private int unknowns = 0;
        private final int[] row = new int[WIDTH];
        private final int[] products = new int[WIDTH * WIDTH];
        private final int[] columns = new int[WIDTH];
        /** The tops of the SLOWNESSES, behind them that of what is left; at WHOLE the bottom of all these. */
        private final Bigs parts = new Bigs(SPARE + 1);

        Fit(Page page, Ways ways, Bigs minors, int wave) {
            this.page = page;
            this.ways = ways;
            this.minors = minors;
            this.wave = wave;
        }

        void solve() {
            if (isSolved) {
                return;
            }
            isSolved = true;
            equations = 0;
            for (int k = 0; k < WIDTH * WIDTH; k++) {
                products[k] = 0;
            }
            for (int arrival = 0; arrival < page.heard.arrivals; arrival++) {
                if (page.heard.put[arrival] != NONE && page.heard.waveOf[arrival] == wave) {
                    addEquation(arrival);
                }
            }
            chooseColumns();
            fillMinors();
            takeParts();
        }

        private void addEquation(int arrival) {
            for (int k = 0; k < LAYERS; k++) {
                row[k] = 0;
            }
            int shock = page.heard.put[arrival];
            ways.walk(page.shocks.cells[shock], page.heard.cellOf(arrival), wave);
            for (int k = 1; k < ways.length; k++) {
                row[ways.cells[k - 1] / COLUMNS]++;
                row[ways.cells[k] / COLUMNS]++;
            }
            row[LAYERS] = page.heard.hour(arrival) - page.shocks.minutes[shock];
            for (int a = 0; a < WIDTH; a++) {
                for (int b = 0; b < WIDTH; b++) {
                    products[a * WIDTH + b] += row[a] * row[b];
                }
            }
            equations++;
        }

        private void chooseColumns() {
            unknowns = 0;
            for (int layer = 0; layer < LAYERS; layer++) {
                if (products[layer * WIDTH + layer] != 0) {
                    columns[unknowns] = layer;
                    unknowns++;
                }
            }
            columns[unknowns] = LAYERS;
        }

        private int product(int a, int b) {
            return products[columns[a] * WIDTH + columns[b]];
        }

        /** The minor of a set of k columns is that in the first k rows, unfolded along the last of these. */
        private void fillMinors() {
            minors.put(0, 1);
            for (int set = 1; set < 1 << (unknowns + 1); set++) {
                minors.put(set, 0);
                int last = Integer.bitCount(set) - 1;
                for (int column = 0; column <= unknowns; column++) {
                    if ((set >> column & 1) != 0) {
                        boolean odd = Integer.bitCount(set >> (column + 1)) % 2 == 1;
                        int factor = product(last, column);
                        minors.addTimes(set, set & ~(1 << column), odd ? -factor : factor);
                    }
                }
            }
        }

        private void takeParts() {
            int right = 1 << unknowns;
            int whole = right - 1;
            for (int column = 0; column < unknowns; column++) {
                parts.copy(column, minors, whole & ~(1 << column) | right);
                // The right side takes the place of this column, but stands last in the minor.
                if ((unknowns - 1 - column) % 2 == 1) {
                    parts.negate(column);
                }
            }
            parts.copy(unknowns, minors, whole | right);
            parts.copy(WHOLE, minors, whole);
        }

        private boolean isDetermined() {
            return unknowns > 0 && !parts.isZero(WHOLE);
        }

        int answer(int what) {
            switch (what) {
                case 0:
                    return equations;
                case 1:
                    return unknowns;
                default:
                    return isDetermined() ? 1 : 0;
            }
        }

        void appendSlownesses(StringBuilder out, Ratio ratio) {
            if (!isDetermined()) {
                out.append('-');
                return;
            }
            int column = 0;
            for (int layer = 0; layer < LAYERS; layer++) {
                if (layer > 0) {
                    out.append(' ');
                }
                if (columns[column] == layer) {
                    ratio.take(parts, column, WHOLE);
                    ratio.appendTo(out);
                    column++;
                } else {
                    out.append('.');
                }
            }
        }

        void appendSquares(StringBuilder out, Ratio ratio) {
            if (!isDetermined()) {
                out.append('-');
                return;
            }
            ratio.take(parts, unknowns, WHOLE);
            ratio.appendTo(out);
        }

        /** Whether what is left of the equations stands upright on each LAYER; so too if nothing is determined. */
        boolean isBalanced() {
            if (!isDetermined()) {
                return true;
            }
            for (int a = 0; a < unknowns; a++) {
                parts.put(SPARE, 0);
                parts.addTimes(SPARE, WHOLE, product(a, unknowns));
                for (int b = 0; b < unknowns; b++) {
                    parts.addTimes(SPARE, b, -product(a, b));
                }
                if (!parts.isZero(SPARE)) {
                    return false;
                }
            }
            return true;
        }
    }

    /**
     * A row of whole numbers of 160 bits, the lowest 32 of each first, one below 0 as its complement.
     * The greatest that the document's limits let come up (what is left, by all eight LAYERS) has some 140.
     */
    private static final class Bigs {
        static final int BITS = 160;
        private static final int PARTS = BITS / 32;
        private static final long LOW = 0xFFFFFFFFL;
        private static final int CHUNK = 1000000000;
        private static final int CHUNK_DIGITS = 9;
        private static final int CHUNKS = 6;

        private final int[] parts;

        Bigs(int many) {
            parts = new int[Math.max(many, 0) * PARTS];
        }

        void put(int at, int value) {
            for (int k = 0; k < PARTS; k++) {
                parts[at * PARTS + k] = k == 0 ? value : value < 0 ? -1 : 0;
            }
        }

        void copy(int at, Bigs other, int from) {
            System.arraycopy(other.parts, from * PARTS, parts, at * PARTS, PARTS);
        }

        boolean isZero(int at) {
            for (int k = 0; k < PARTS; k++) {
                if (parts[at * PARTS + k] != 0) {
                    return false;
                }
            }
            return true;
        }

        boolean isOne(int at) {
            for (int k = 1; k < PARTS; k++) {
                if (parts[at * PARTS + k] != 0) {
                    return false;
                }
            }
            return parts[at * PARTS] == 1;
        }

        boolean isOdd(int at) {
            return (parts[at * PARTS] & 1) == 1;
        }

        boolean isBelowZero(int at) {
            return parts[at * PARTS + PARTS - 1] < 0;
        }

        void negate(int at) {
            long carry = 1;
            for (int k = 0; k < PARTS; k++) {
                carry += ~parts[at * PARTS + k] & LOW;
                parts[at * PARTS + k] = (int) carry;
                carry >>>= 32;
            }
        }

        /** Adds that number, taken so often, to this one. */
        void addTimes(int at, int from, int factor) {
            long times = Math.abs((long) factor);
            long carry = 0;
            long borrow = 0;
            for (int k = 0; k < PARTS; k++) {
                carry += (parts[from * PARTS + k] & LOW) * times;
                long own = parts[at * PARTS + k] & LOW;
                if (factor >= 0) {
                    carry += own;
                    parts[at * PARTS + k] = (int) carry;
                } else {
                    long rest = own - (carry & LOW) - borrow;
                    parts[at * PARTS + k] = (int) rest;
                    borrow = rest < 0 ? 1 : 0;
                }
                carry >>>= 32;
            }
        }

        void multiply(int at, int factor) {
            long carry = 0;
            for (int k = 0; k < PARTS; k++) {
                carry += (parts[at * PARTS + k] & LOW) * factor;
                parts[at * PARTS + k] = (int) carry;
                carry >>>= 32;
            }
        }

        int compare(int one, int other) {
            for (int k = PARTS - 1; k >= 0; k--) {
                long a = parts[one * PARTS + k] & LOW;
                long b = parts[other * PARTS + k] & LOW;
                if (a != b) {
                    return a < b ? -1 : 1;
                }
            }
            return 0;
        }

        void halve(int at) {
            int carry = 0;
            for (int k = PARTS - 1; k >= 0; k--) {
                int part = parts[at * PARTS + k];
                parts[at * PARTS + k] = part >>> 1 | carry << 31;
                carry = part & 1;
            }
        }

        /** Twice the number, and a last bit. */
        void twice(int at, int bit) {
            int carry = bit;
            for (int k = 0; k < PARTS; k++) {
                int part = parts[at * PARTS + k];
                parts[at * PARTS + k] = part << 1 | carry;
                carry = part >>> 31;
            }
        }

        int bit(int at, int number) {
            return parts[at * PARTS + number / 32] >>> number % 32 & 1;
        }

        void setBit(int at, int number) {
            parts[at * PARTS + number / 32] |= 1 << number % 32;
        }

        /** Divides the number, and gives back its rest. */
        private int takeChunk(int at) {
            long rest = 0;
            for (int k = PARTS - 1; k >= 0; k--) {
                long dividend = rest << 32 | parts[at * PARTS + k] & LOW;
                parts[at * PARTS + k] = (int) (dividend / CHUNK);
                rest = dividend % CHUNK;
            }
            return (int) rest;
        }

        /** Writes the number, and uses it up. */
        void writeOut(int at, int[] chunks, StringBuilder out) {
            int many = 0;
            for (int k = 0; k < CHUNKS && k < chunks.length; k++) {
                chunks[k] = takeChunk(at);
                if (chunks[k] != 0) {
                    many = k;
                }
            }
            out.append(chunks[many]);
            for (int k = many - 1; k >= 0; k--) {
                int unit = CHUNK / 10;
                for (int digit = 0; digit < CHUNK_DIGITS && unit > 0; digit++) {
                    out.append((char) ('0' + chunks[k] / unit % 10));
                    unit /= 10;
                }
            }
        }
    }

    /** A FRACTION of big numbers: a sum of small ones, or two minors. */
    private static final class Ratio {
        private static final int TOP = 0;
        private static final int BOTTOM = 1;
        private static final int DIVISOR = 2;
        private static final int OTHER = 3;
        private static final int REST = 4;
        private static final int QUOTIENT = 5;

        private final Bigs numbers = new Bigs(6);
        private final int[] chunks = new int[Bigs.CHUNKS];

        void start() {
            numbers.put(TOP, 0);
            numbers.put(BOTTOM, 1);
        }

        void add(int top, int bottom) {
            numbers.multiply(TOP, bottom);
            numbers.addTimes(TOP, BOTTOM, top);
            numbers.multiply(BOTTOM, bottom);
        }

        boolean isZero() {
            return numbers.isZero(TOP);
        }

        /** That number divided by this ratio. */
        void divideThis(int number) {
            numbers.copy(OTHER, numbers, TOP);
            numbers.copy(TOP, numbers, BOTTOM);
            numbers.copy(BOTTOM, numbers, OTHER);
            numbers.multiply(TOP, number);
        }

        void take(Bigs from, int top, int bottom) {
            numbers.copy(TOP, from, top);
            numbers.copy(BOTTOM, from, bottom);
        }

        void appendTo(StringBuilder out) {
            if (numbers.isBelowZero(TOP)) {
                out.append('-');
                numbers.negate(TOP);
            }
            findDivisor();
            divide(TOP);
            divide(BOTTOM);
            boolean isWhole = numbers.isOne(BOTTOM);
            numbers.writeOut(TOP, chunks, out);
            if (!isWhole) {
                out.append('/');
                numbers.writeOut(BOTTOM, chunks, out);
            }
        }

        /** The greatest that divides both, by halving and taking away: no division of big numbers is needed. */
        private void findDivisor() {
            numbers.copy(OTHER, numbers, TOP);
            numbers.copy(DIVISOR, numbers, BOTTOM);
            int twos = 0;
            for (int k = 0; k < 2 * Bigs.BITS && !numbers.isZero(OTHER); k++) {
                boolean isOtherOdd = numbers.isOdd(OTHER);
                boolean isDivisorOdd = numbers.isOdd(DIVISOR);
                if (!isOtherOdd) {
                    numbers.halve(OTHER);
                    twos += isDivisorOdd ? 0 : 1;
                }
                if (!isDivisorOdd) {
                    numbers.halve(DIVISOR);
                }
                if (isOtherOdd && isDivisorOdd) {
                    takeAway();
                }
            }
            for (int k = 0; k < twos; k++) {
                numbers.twice(DIVISOR, 0);
            }
        }

        private void takeAway() {
            if (numbers.compare(OTHER, DIVISOR) >= 0) {
                numbers.addTimes(OTHER, DIVISOR, -1);
                numbers.halve(OTHER);
            } else {
                numbers.addTimes(DIVISOR, OTHER, -1);
                numbers.halve(DIVISOR);
            }
        }

        private void divide(int at) {
            if (numbers.isOne(DIVISOR)) {
                return;
            }
            numbers.put(REST, 0);
            numbers.put(QUOTIENT, 0);
            for (int bit = Bigs.BITS - 1; bit >= 0; bit--) {
                numbers.twice(REST, numbers.bit(at, bit));
                if (numbers.compare(REST, DIVISOR) >= 0) {
                    numbers.addTimes(REST, DIVISOR, -1);
                    numbers.setBit(QUOTIENT, bit);
                }
            }
            numbers.copy(at, numbers, QUOTIENT);
        }
    }
}
