import java.util.ArrayList;
import java.util.List;
import java.util.function.Supplier;

/** Books that several tests ask, made by the same calls each time, and what such a book tells. */
final class Books {
    private Books() {
    }

    /** One of each, and an ARRIVAL that is FORGOTTEN; fewer CHANGES than can be kept. */
    static Quakebook some() {
        Quakebook x = Looks.standing(1, 0);
        x.tell(1, 100, 0, 0);
        x.arrive(0, 0, 106, 10);
        x.arrive(0, 1, 700, 20);
        x.forget(1);
        x.rule(1, 1, 0, 5);
        return x;
    }

    /** As many of all as there can be; SHOCKS with a told SIZE, with ARRIVALS, and with neither. */
    static Quakebook full() {
        Quakebook x = new Quakebook();
        x.layer(2, 0, 5);
        x.wall(95, true);
        int[] cells = {0, 11, 84, 50, 50, 95};
        for (int cell : cells) {
            x.station(cell);
        }
        for (int shock = 0; shock < 10; shock++) {
            x.tell(9 * shock, 1000 + 50 * shock, shock % 3, 1 + shock);
        }
        for (int k = 0; k < 24; k++) {
            int station = k % 5;
            int shock = k % 9;
            int time = x.time(cells[station], 9 * shock, k / 12);
            x.arrive(station, k / 12, 1000 + 50 * shock + time + k % 3, 1 + k);
        }
        for (int k = 0; k < 4; k++) {
            x.rule(k, 1 + k, k, 11 - k);
        }
        x.forget(23);
        x.knock();
        return x;
    }

    /** What a book tells, each thing at least once, by at most 30 calls. */
    static String told(Quakebook x) {
        StringBuilder all = new StringBuilder();
        all.append(x.digest()).append(' ').append(x.putTo(-1)).append(' ').append(x.count(6)).append('\n');
        int shocks = x.count(4);
        for (int shock = 0; shock < shocks; shock++) {
            all.append(x.size(shock)).append(' ').append(x.putTo(shock)).append('\n');
        }
        all.append(x.clusters(2, 100)).append('\n').append(x.alerts()).append('\n').append(x.book()).append('\n');
        for (int wave = 0; wave < 2; wave++) {
            all.append(x.made(wave)).append('\n').append(x.left(wave)).append('\n');
        }
        return all.toString();
    }

    /** The values of the checksum in their order, each group asked of a book of its own. */
    static List<Long> values(Supplier<Quakebook> same) {
        List<Long> v = new ArrayList<>();
        Quakebook x = same.get();
        for (int what = 0; what <= 9; what++) {
            v.add((long) x.count(what));
        }
        for (int cell = 0; cell < 96; cell++) {
            Quakebook y = cell % 48 == 0 ? same.get() : x;
            for (int what = 0; what <= 4; what++) {
                v.add((long) y.ofCell(cell, what));
            }
            x = y;
        }
        x = same.get();
        for (int arrival = 0; arrival < x.count(2); arrival++) {
            for (int what = 0; what <= 7; what++) {
                v.add((long) x.ofArrival(arrival, what));
            }
        }
        x = same.get();
        for (int shock = 0; shock < x.count(4); shock++) {
            for (int what = 0; what <= 5; what++) {
                v.add((long) x.ofShock(shock, what));
            }
            v.add((long) x.size(shock).length());
        }
        String[] texts = {x.clusters(2, 100), x.alerts(), x.book(), x.made(0), x.made(1), x.left(0), x.left(1)};
        for (String text : texts) {
            v.add((long) text.length());
        }
        v.add(x.isSound() ? 1L : 0L);
        return v;
    }
}
