import java.util.ArrayList;
import java.util.Comparator;
import java.util.List;
import java.util.NoSuchElementException;

/**
 * The document's promises in their slowest form, to compare DockBook with: an exact plan is found by
 * trying every order of every choice of doors, with no table and no shortcut.
 */
final class PlainDocks {
    private static final class Door {
        int kinds, from, to, departed;
        boolean out;
        Truck at;
    }

    private static final class Truck {
        int number, kind, arrival, need, rank, state;
        int door = -1, start = -1, left = -1;
        List<Integer> seals = new ArrayList<>();
        Boolean load;
    }

    private final List<Door> doors = new ArrayList<>();
    private final List<Truck> trucks = new ArrayList<>();
    private int now, moved;
    private boolean exact;

    private static void range(boolean holds) {
        if (!holds) {
            throw new IllegalArgumentException();
        }
    }

    private static void state(boolean holds) {
        if (!holds) {
            throw new IllegalStateException();
        }
    }

    private static boolean in(int x, int a, int b) {
        return x >= a && x <= b;
    }

    private Truck truckOf(int i) {
        if (!in(i, 0, trucks.size() - 1)) {
            throw new NoSuchElementException();
        }
        return trucks.get(i);
    }

    private Door doorOf(int i) {
        if (!in(i, 0, doors.size() - 1)) {
            throw new NoSuchElementException();
        }
        return doors.get(i);
    }

    private List<Truck> waiting() {
        return trucks.stream().filter(t -> t.state == 0).toList();
    }

    int door(int kinds, int from, int to) {
        range(in(kinds, 1, 255) && in(from, 0, 2000) && in(to, 0, 2000) && from < to);
        if (doors.size() == 4) {
            throw new UnsupportedOperationException();
        }
        Door d = new Door();
        d.kinds = kinds;
        d.from = from;
        d.to = to;
        doors.add(d);
        return doors.size() - 1;
    }

    int truck(int kind, int arrival, int need, int rank) {
        range(in(kind, 0, 7) && in(arrival, 0, 2000) && in(need, 1, 300) && in(rank, 1, 9));
        if (trucks.size() == 12) {
            throw new UnsupportedOperationException();
        }
        Truck t = new Truck();
        t.number = trucks.size();
        t.kind = kind;
        t.arrival = arrival;
        t.need = need;
        t.rank = rank;
        trucks.add(t);
        return t.number;
    }

    /** The start of a truck at a door behind one that ends at a time (-1: it is the first); -1 if it can't be. */
    private int startAt(Door d, int endBefore, Truck t) {
        int start = Math.max(Math.max(t.arrival, d.from), now);
        if (endBefore >= 0) {
            start = Math.max(start, endBefore);
        } else if (d.at != null) {
            start = Math.max(start, Math.max(d.at.start + d.at.need, now));
        }
        boolean fits = !d.out && (d.kinds >> t.kind) % 2 == 1 && start + t.need <= d.to;
        return fits ? start : -1;
    }

    int assign(int most) {
        range(in(most, 0, 5));
        List<Truck> all = waiting();
        int[][] before = all.stream().map(t -> new int[] {t.door, t.start}).toArray(int[][]::new);
        exact = all.size() <= most;
        if (exact) {
            best = null;
            tryOrders(all, new int[all.size()][], new int[doors.size()]);
            for (int i = 0; i < all.size(); i++) {
                all.get(i).door = best[1 + i] == 9 ? -1 : best[1 + i];
                all.get(i).start = best[1 + all.size() + i];
            }
        } else {
            byRule(all);
        }
        moved = 0;
        for (int i = 0; i < all.size(); i++) {
            moved += all.get(i).door != before[i][0] || all.get(i).start != before[i][1] ? 1 : 0;
        }
        return count(7);
    }

    /** Cost, then doors (nothing is 9), then starts: plans compare as these rows do. */
    private int[] best;

    /** Puts any truck that has no place yet behind a door's others, or ends with the rest having nothing. */
    private void tryOrders(List<Truck> all, int[][] places, int[] ends) {
        int n = all.size();
        int[] row = new int[1 + 2 * n];
        for (int i = 0; i < n; i++) {
            row[0] += places[i] == null ? 5000 : places[i][1] - all.get(i).arrival;
            row[1 + i] = places[i] == null ? 9 : places[i][0];
            row[1 + n + i] = places[i] == null ? -1 : places[i][1];
        }
        if (best == null || java.util.Arrays.compare(row, best) < 0) {
            best = row;
        }
        for (int i = 0; i < n; i++) {
            for (int d = 0; places[i] == null && d < doors.size(); d++) {
                int start = startAt(doors.get(d), ends[d] == 0 ? -1 : ends[d], all.get(i));
                if (start >= 0) {
                    int[][] morePlaces = places.clone();
                    int[] moreEnds = ends.clone();
                    morePlaces[i] = new int[] {d, start};
                    moreEnds[d] = start + all.get(i).need;
                    tryOrders(all, morePlaces, moreEnds);
                }
            }
        }
    }

    private void byRule(List<Truck> all) {
        List<Truck> sorted = new ArrayList<>(all);
        sorted.sort(Comparator.<Truck>comparingInt(t -> t.rank).thenComparingInt(t -> t.arrival)
                .thenComparingInt(t -> t.number));
        int[] ends = new int[doors.size()];
        for (Truck t : sorted) {
            t.door = -1;
            t.start = -1;
            for (int d = 0; d < doors.size(); d++) {
                int start = startAt(doors.get(d), ends[d] == 0 ? -1 : ends[d], t);
                if (start >= 0 && (t.door < 0 || start < t.start)) {
                    t.door = d;
                    t.start = start;
                }
            }
            if (t.door >= 0) {
                ends[t.door] = t.start + t.need;
            }
        }
    }

    boolean exact() {
        return exact;
    }

    int moved() {
        return moved;
    }

    int bound() {
        int sum = 0;
        for (Truck t : waiting()) {
            sum += doors.stream().mapToInt(d -> startAt(d, -1, t)).filter(s -> s >= 0).map(s -> s - t.arrival).min()
                    .orElse(5000);
        }
        return sum;
    }

    void call(int truck) {
        Truck t = truckOf(truck);
        state(t.state == 0 && t.door >= 0 && t.start <= now);
        Door d = doors.get(t.door);
        state(!d.out && d.at == null && now + t.need <= d.to);
        t.state = 1;
        t.start = now;
        d.at = t;
    }

    int seal(int truck, int number) {
        Truck t = truckOf(truck);
        range(in(number, 0, 9999));
        state(t.state < 2);
        t.seals.add(number);
        if (t.seals.size() == 1) {
            return 0;
        }
        if (t.seals.get(0) == number) {
            return 1;
        }
        t.seals.clear();
        return 2;
    }

    boolean load(int truck, int ordered, int loaded) {
        Truck t = truckOf(truck);
        range(in(ordered, 0, 10000) && in(loaded, 0, 10000));
        state(t.state == 1);
        t.load = ordered == loaded;
        return t.load;
    }

    int depart(int truck) {
        Truck t = truckOf(truck);
        state(t.state == 1);
        if (t.seals.size() < 2) {
            return 2;
        }
        if (t.load == null || !t.load) {
            return 3;
        }
        if (t.start + t.need > now) {
            return 4;
        }
        t.state = 2;
        t.left = now;
        doors.get(t.door).at = null;
        doors.get(t.door).departed++;
        return 1;
    }

    boolean late(int truck, int arrival) {
        Truck t = truckOf(truck);
        range(in(arrival, 0, 2000));
        state(t.state == 0);
        boolean had = t.door >= 0;
        t.arrival = arrival;
        if (had && t.start < arrival) {
            t.door = -1;
            t.start = -1;
        }
        return had;
    }

    void cancel(int truck) {
        Truck t = truckOf(truck);
        state(t.state == 0);
        t.state = 3;
        t.door = -1;
        t.start = -1;
    }

    int out(int door, boolean on) {
        Door d = doorOf(door);
        state(d.out != on);
        d.out = on;
        int lost = 0;
        for (Truck t : waiting()) {
            if (on && t.door == door) {
                t.door = -1;
                t.start = -1;
                lost++;
            }
        }
        return lost;
    }

    void pass(int time) {
        range(in(time, 0, 2000) && time >= now);
        now = time;
    }

    int order(int door, int i) {
        doorOf(door);
        List<Truck> its = new ArrayList<>(waiting().stream().filter(t -> t.door == door).toList());
        its.sort(Comparator.<Truck>comparingInt(t -> t.start).thenComparingInt(t -> t.number));
        if (!in(i, 0, its.size() - 1)) {
            throw new NoSuchElementException();
        }
        return its.get(i).number;
    }

    int told(int truck, int what) {
        Truck t = truckOf(truck);
        range(in(what, 0, 7));
        int minutes = t.left < 0 ? -1 : t.left - t.arrival;
        return new int[] {t.state, t.door, t.start, t.arrival, t.need, t.rank, t.kind, minutes}[what];
    }

    int known(int door, int what) {
        Door d = doorOf(door);
        range(in(what, 0, 4));
        int planned = (int) waiting().stream().filter(t -> t.door == door).count();
        return new int[] {d.at == null ? -1 : d.at.number, d.out ? 1 : 0, planned, d.kinds, d.departed}[what];
    }

    int count(int what) {
        int[] states = new int[4];
        trucks.forEach(t -> states[t.state]++);
        int cost = waiting().stream().mapToInt(t -> t.door < 0 ? 5000 : t.start - t.arrival).sum();
        int[] all = {doors.size(), trucks.size(), states[0], states[1], states[2], states[3], now, cost};
        return in(what, 0, 7) ? all[what] : -1;
    }
}
