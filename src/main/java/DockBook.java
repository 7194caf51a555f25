import java.util.Arrays;
import java.util.NoSuchElementException;

/**
 * Docks of a warehouse: doors, trucks, and plans that give each waiting truck a door and a start.
 *
 * <p>All doors, trucks and working rows are made with the object and used again, so that no call
 * makes anything but the exceptions that it throws.
 */
public final class DockBook {
    private static final int MOST_DOORS = 4;
    private static final int MOST_TRUCKS = 12;
    private static final int LAST_TIME = 2000;
    private static final int LAST_KIND = 7;
    private static final int ALL_KINDS = 255;
    private static final int MOST_NEED = 300;
    private static final int LAST_RANK = 9;
    private static final int LAST_SEAL = 9999;
    private static final int MOST_PIECES = 10000;

    /** The most waiting trucks that can be planned exactly. */
    private static final int FEW = 5;
    private static final int SETS_OF_FEW = 1 << FEW;

    private static final int COST_OF_NOTHING = 5000;
    /** Above the cost of every plan of a few trucks, and small enough to be added up. */
    private static final int IMPOSSIBLE = 1000000;
    private static final int NONE = -1;

    private static final int WAITING = 0;
    private static final int AT_DOOR = 1;
    private static final int GONE = 2;
    private static final int CANCELLED = 3;

    private final Door[] doors = new Door[MOST_DOORS];
    private final Truck[] trucks = new Truck[MOST_TRUCKS];
    private final Truck[] waiting = new Truck[MOST_TRUCKS];
    private final DoorChoice doorChoice = new DoorChoice();
    private int doorCount = 0;
    private int truckCount = 0;
    private int now = 0;
    private boolean lastWasExact = false;
    private int lastMoved = 0;

    public DockBook() {
        for (int i = 0; i < MOST_DOORS; i++) {
            doors[i] = new Door();
        }
        for (int i = 0; i < MOST_TRUCKS; i++) {
            trucks[i] = new Truck(i);
            // No place of the row is ever null, whatever part of it is in use.
            waiting[i] = trucks[i];
        }
    }

    public int door(int kinds, int from, int to)
            throws IllegalArgumentException, UnsupportedOperationException {
        requireRange(kinds, 1, ALL_KINDS);
        requireRange(from, 0, LAST_TIME);
        requireRange(to, from + 1, LAST_TIME);
        if (doorCount >= MOST_DOORS) {
            throw new UnsupportedOperationException("no room for another door");
        }
        Door added = doors[doorCount];
        added.kinds = kinds;
        added.from = from;
        added.to = to;
        doorCount++;
        return doorCount - 1;
    }

    public int truck(int kind, int arrival, int need, int rank)
            throws IllegalArgumentException, UnsupportedOperationException {
        requireRange(kind, 0, LAST_KIND);
        requireRange(arrival, 0, LAST_TIME);
        requireRange(need, 1, MOST_NEED);
        requireRange(rank, 1, LAST_RANK);
        if (truckCount >= MOST_TRUCKS) {
            throw new UnsupportedOperationException("no room for another truck");
        }
        Truck added = trucks[truckCount];
        added.kind = kind;
        added.arrival = arrival;
        added.need = need;
        added.rank = rank;
        truckCount++;
        return truckCount - 1;
    }

    public int assign(int most) throws IllegalArgumentException {
        requireRange(most, 0, FEW);
        int size = gatherWaiting();
        for (int i = 0; i < size; i++) {
            waiting[i].rememberPlan();
        }
        lastWasExact = size <= most;
        if (lastWasExact) {
            doorChoice.planExactly(doors, doorCount, waiting, size, now);
        } else {
            planByRule(size);
        }
        lastMoved = 0;
        for (int i = 0; i < size; i++) {
            lastMoved += waiting[i].hasMoved() ? 1 : 0;
        }
        return planCost();
    }

    public boolean exact() {
        return lastWasExact;
    }

    public int moved() {
        return lastMoved;
    }

    public int bound() {
        int sum = 0;
        for (int i = 0; i < truckCount; i++) {
            if (trucks[i].state == WAITING) {
                sum += costAlone(trucks[i]);
            }
        }
        return sum;
    }

    public void call(int truck) throws NoSuchElementException, IllegalStateException {
        Truck called = truckNumbered(truck);
        if (!mayBeCalled(called)) {
            throw new IllegalStateException("the truck can't go to a door now");
        }
        Door its = doorNumbered(called.door);
        called.state = AT_DOOR;
        called.start = now;
        its.truckAtIt = truck;
        its.freeAt = now + called.need;
    }

    public int seal(int truck, int number)
            throws NoSuchElementException, IllegalArgumentException, IllegalStateException {
        Truck sealed = truckNumbered(truck);
        requireRange(number, 0, LAST_SEAL);
        if (sealed.state != WAITING && sealed.state != AT_DOOR) {
            throw new IllegalStateException("the truck is gone or cancelled");
        }
        return sealed.tellSeal(number);
    }

    public boolean load(int truck, int ordered, int loaded)
            throws NoSuchElementException, IllegalArgumentException, IllegalStateException {
        Truck atDoor = truckNumbered(truck);
        requireRange(ordered, 0, MOST_PIECES);
        requireRange(loaded, 0, MOST_PIECES);
        requireState(atDoor, AT_DOOR);
        atDoor.loadIsRight = ordered == loaded;
        return atDoor.loadIsRight;
    }

    public int depart(int truck) throws NoSuchElementException, IllegalStateException {
        Truck leaving = truckNumbered(truck);
        requireState(leaving, AT_DOOR);
        if (!leaving.sealIsSure) {
            return 2;
        }
        if (!leaving.loadIsRight) {
            return 3;
        }
        if (leaving.start + leaving.need > now) {
            return 4;
        }
        Door its = doorNumbered(leaving.door);
        leaving.state = GONE;
        leaving.departure = now;
        its.truckAtIt = NONE;
        its.freeAt = 0;
        its.departed++;
        return 1;
    }

    public boolean late(int truck, int arrival)
            throws NoSuchElementException, IllegalArgumentException, IllegalStateException {
        Truck delayed = truckNumbered(truck);
        requireRange(arrival, 0, LAST_TIME);
        requireState(delayed, WAITING);
        boolean wasPlanned = delayed.door != NONE;
        delayed.arrival = arrival;
        if (delayed.start < arrival) {
            delayed.setPlan(NONE, NONE);
        }
        return wasPlanned;
    }

    public void cancel(int truck) throws NoSuchElementException, IllegalStateException {
        Truck cancelled = truckNumbered(truck);
        requireState(cancelled, WAITING);
        cancelled.state = CANCELLED;
        cancelled.setPlan(NONE, NONE);
    }

    public int out(int door, boolean on) throws NoSuchElementException, IllegalStateException {
        Door turned = doorNumbered(door);
        if (turned.isOut == on) {
            throw new IllegalStateException("the door is so already");
        }
        turned.isOut = on;
        // A door that was out had no plans, so only going out can take some away.
        int lost = 0;
        for (int i = 0; i < truckCount; i++) {
            if (trucks[i].isPlannedFor(door)) {
                trucks[i].setPlan(NONE, NONE);
                lost++;
            }
        }
        return lost;
    }

    public void pass(int time) throws IllegalArgumentException {
        requireRange(time, now, LAST_TIME);
        now = time;
    }

    public int order(int door, int i) throws NoSuchElementException {
        doorNumbered(door);
        for (int k = 0; k < truckCount; k++) {
            if (trucks[k].isPlannedFor(door) && plannedBefore(trucks[k]) == i) {
                return k;
            }
        }
        throw new NoSuchElementException("the door has not so many waiting trucks");
    }

    public int told(int truck, int what) throws NoSuchElementException, IllegalArgumentException {
        Truck asked = truckNumbered(truck);
        switch (what) {
            case 0: return asked.state;
            case 1: return asked.door;
            case 2: return asked.start;
            case 3: return asked.arrival;
            case 4: return asked.need;
            case 5: return asked.rank;
            case 6: return asked.kind;
            case 7: return asked.departure == NONE ? NONE : asked.departure - asked.arrival;
            default: throw new IllegalArgumentException("a truck tells 0 to 7");
        }
    }

    public int known(int door, int what) throws NoSuchElementException, IllegalArgumentException {
        Door asked = doorNumbered(door);
        switch (what) {
            case 0: return asked.truckAtIt;
            case 1: return asked.isOut ? 1 : 0;
            case 2: return plannedFor(door);
            case 3: return asked.kinds;
            case 4: return asked.departed;
            default: throw new IllegalArgumentException("of a door 0 to 4 are known");
        }
    }

    public int count(int what) {
        switch (what) {
            case 0: return doorCount;
            case 1: return truckCount;
            case 2: return trucksThatAre(WAITING);
            case 3: return trucksThatAre(AT_DOOR);
            case 4: return trucksThatAre(GONE);
            case 5: return trucksThatAre(CANCELLED);
            case 6: return now;
            case 7: return planCost();
            default: return -1;
        }
    }

    private static void requireRange(int number, int least, int greatest) {
        if (number < least || number > greatest) {
            throw new IllegalArgumentException("a number is outside its range");
        }
    }

    private static void requireState(Truck truck, int state) {
        if (truck.state != state) {
            throw new IllegalStateException("the truck is in another state");
        }
    }

    private Truck truckNumbered(int number) {
        if (number < 0 || number >= truckCount) {
            throw new NoSuchElementException("there is no such truck");
        }
        return trucks[number];
    }

    private Door doorNumbered(int number) {
        if (number < 0 || number >= doorCount) {
            throw new NoSuchElementException("there is no such door");
        }
        return doors[number];
    }

    private int trucksThatAre(int state) {
        int found = 0;
        for (int i = 0; i < truckCount; i++) {
            found += trucks[i].state == state ? 1 : 0;
        }
        return found;
    }

    private int plannedFor(int door) {
        int found = 0;
        for (int i = 0; i < truckCount; i++) {
            found += trucks[i].isPlannedFor(door) ? 1 : 0;
        }
        return found;
    }

    private int plannedBefore(Truck truck) {
        int found = 0;
        for (int i = 0; i < truckCount; i++) {
            Truck other = trucks[i];
            boolean earlier = other.start < truck.start
                    || other.start == truck.start && other.number < truck.number;
            found += other.isPlannedFor(truck.door) && earlier ? 1 : 0;
        }
        return found;
    }

    private int planCost() {
        int sum = 0;
        for (int i = 0; i < truckCount; i++) {
            sum += trucks[i].state == WAITING ? trucks[i].costAt(trucks[i].start) : 0;
        }
        return sum;
    }

    private int costAlone(Truck truck) {
        int least = COST_OF_NOTHING;
        for (int i = 0; i < doorCount; i++) {
            int start = doors[i].startOf(truck, doors[i].readyAt(now));
            least = Math.min(least, truck.costAt(start));
        }
        return least;
    }

    private boolean mayBeCalled(Truck truck) {
        if (truck.state != WAITING || truck.door == NONE || truck.start > now) {
            return false;
        }
        Door planned = doorNumbered(truck.door);
        return !planned.isOut && planned.truckAtIt == NONE && now + truck.need <= planned.to;
    }

    private int gatherWaiting() {
        int size = 0;
        for (int i = 0; i < truckCount; i++) {
            if (trucks[i].state == WAITING) {
                waiting[size] = trucks[i];
                size++;
            }
        }
        return size;
    }

    private void planByRule(int size) {
        sortByRule(size);
        for (int i = 0; i < doorCount; i++) {
            doors[i].nextReady = doors[i].readyAt(now);
        }
        for (int i = 0; i < size; i++) {
            placeByRule(waiting[i]);
        }
    }

    private void sortByRule(int size) {
        for (int i = 1; i < size; i++) {
            Truck moving = waiting[i];
            int place = i;
            while (place > 0 && moving.goesBefore(waiting[place - 1])) {
                waiting[place] = waiting[place - 1];
                place--;
            }
            waiting[place] = moving;
        }
    }

    private void placeByRule(Truck truck) {
        int bestDoor = NONE;
        int bestStart = NONE;
        for (int i = 0; i < doorCount; i++) {
            int start = doors[i].startOf(truck, doors[i].nextReady);
            if (start != NONE && (bestDoor == NONE || start < bestStart)) {
                bestDoor = i;
                bestStart = start;
            }
        }
        truck.setPlan(bestDoor, bestStart);
        if (bestDoor != NONE) {
            doors[bestDoor].nextReady = bestStart + truck.need;
        }
    }

    /** A door; places of the row that are not in use yet take no kinds. */
    private static final class Door {
        int kinds = 0;
        int from = 0;
        int to = 0;
        boolean isOut = false;
        int truckAtIt = NONE;
        /** The end of the truck at it, 0 if there is none. */
        int freeAt = 0;
        int departed = 0;
        /** While a plan is made by rule: the end of the last truck that it has so far. */
        int nextReady = 0;

        int readyAt(int now) {
            return Math.max(from, Math.max(freeAt, now));
        }

        /** The start of a truck that comes when the door is ready, NONE if the door can't take it. */
        int startOf(Truck truck, int ready) {
            if (isOut || (kinds & (1 << truck.kind)) == 0) {
                return NONE;
            }
            int start = Math.max(truck.arrival, ready);
            return start + truck.need <= to ? start : NONE;
        }
    }

    /** A truck; its door and start are planned while it waits, and kept when it has been called. */
    private static final class Truck {
        final int number;
        int kind = 0;
        int arrival = 0;
        int need = 0;
        int rank = 0;
        int state = WAITING;
        int door = NONE;
        int start = NONE;
        int doorBefore = NONE;
        int startBefore = NONE;
        int sealTold = NONE;
        boolean sealIsSure = false;
        boolean loadIsRight = false;
        int departure = NONE;

        Truck(int number) {
            this.number = number;
        }

        void setPlan(int newDoor, int newStart) {
            door = newDoor;
            start = newStart;
        }

        void rememberPlan() {
            doorBefore = door;
            startBefore = start;
        }

        boolean hasMoved() {
            return door != doorBefore || start != startBefore;
        }

        boolean isPlannedFor(int someDoor) {
            return state == WAITING && door == someDoor;
        }

        int costAt(int someStart) {
            return someStart == NONE ? COST_OF_NOTHING : someStart - arrival;
        }

        boolean goesBefore(Truck other) {
            if (rank != other.rank) {
                return rank < other.rank;
            }
            if (arrival != other.arrival) {
                return arrival < other.arrival;
            }
            return number < other.number;
        }

        int tellSeal(int told) {
            if (sealTold == NONE) {
                sealTold = told;
                return 0;
            }
            sealIsSure = sealTold == told;
            if (sealIsSure) {
                return 1;
            }
            sealTold = NONE;
            return 2;
        }
    }

    /**
     * For each set of a few trucks (bits by their places in the row): the order at one door that
     * costs least, and of such ones that whose starts come first.
     */
    private static final class DoorOrders {
        final int[] costs = new int[SETS_OF_FEW];
        private final int[] bestStarts = new int[SETS_OF_FEW * FEW];
        private final int[] starts = new int[FEW];

        void findAll(Door door, Truck[] few, int size, int ready) {
            Arrays.fill(costs, IMPOSSIBLE);
            extend(door, few, size, 0, ready, 0);
        }

        int startIn(int set, int place) {
            return bestStarts[set * FEW + place];
        }

        /** With add it goes at most FEW levels deep: each adds a truck to the set. */
        private void extend(Door door, Truck[] few, int size, int set, int ready, int cost) {
            keepIfBetter(set, size, cost);
            for (int i = 0; i < size; i++) {
                if ((set & (1 << i)) == 0) {
                    add(door, few, size, set, i, ready, cost);
                }
            }
        }

        private void add(Door door, Truck[] few, int size, int set, int place, int ready, int cost) {
            Truck added = few[place];
            int start = door.startOf(added, ready);
            if (start == NONE) {
                return;
            }
            starts[place] = start;
            extend(door, few, size, set | (1 << place), start + added.need, cost + added.costAt(start));
        }

        private void keepIfBetter(int set, int size, int cost) {
            if (cost > costs[set] || cost == costs[set] && !startsComeFirst(set, size)) {
                return;
            }
            costs[set] = cost;
            for (int i = 0; i < size; i++) {
                bestStarts[set * FEW + i] = starts[i];
            }
        }

        private boolean startsComeFirst(int set, int size) {
            for (int i = 0; i < size; i++) {
                int best = bestStarts[set * FEW + i];
                if ((set & (1 << i)) != 0 && starts[i] != best) {
                    return starts[i] < best;
                }
            }
            return false;
        }
    }

    /**
     * The exact plan: which door each of a few trucks has. Once the doors are chosen, what happens
     * at one door does not touch another, so the best order at each makes the best plan.
     */
    private static final class DoorChoice {
        private final DoorOrders[] orders = new DoorOrders[MOST_DOORS];
        private final int[] setAtDoor = new int[MOST_DOORS];
        private final int[] chosen = new int[FEW];
        private final int[] best = new int[FEW];
        private int bestCost = IMPOSSIBLE;

        DoorChoice() {
            for (int i = 0; i < MOST_DOORS; i++) {
                orders[i] = new DoorOrders();
            }
        }

        void planExactly(Door[] doors, int doorCount, Truck[] few, int size, int now) {
            for (int i = 0; i < doorCount; i++) {
                orders[i].findAll(doors[i], few, size, doors[i].readyAt(now));
                setAtDoor[i] = 0;
            }
            bestCost = IMPOSSIBLE;
            choose(doorCount, size, 0, 0);
            for (int i = 0; i < size; i++) {
                int door = best[i];
                few[i].setPlan(door, door == NONE ? NONE : orders[door].startIn(bestSetAt(door, size), i));
            }
        }

        private int bestSetAt(int door, int size) {
            int set = 0;
            for (int i = 0; i < size; i++) {
                set |= best[i] == door ? 1 << i : 0;
            }
            return set;
        }

        /**
         * Choices are tried in the order in which plans of equal cost come, so a later one must
         * cost less to be better; and another truck never makes those before it cheaper, so a
         * choice that costs as much already is left. With its two helpers it goes at most FEW
         * levels deep: each gives one truck more its door.
         */
        private void choose(int doorCount, int size, int place, int cost) {
            if (cost >= bestCost) {
                return;
            }
            if (place >= size) {
                bestCost = cost;
                System.arraycopy(chosen, 0, best, 0, size);
                return;
            }
            for (int i = 0; i < doorCount; i++) {
                chooseDoor(i, doorCount, size, place, cost);
            }
            chooseNothing(doorCount, size, place, cost);
        }

        private void chooseDoor(int door, int doorCount, int size, int place, int cost) {
            int set = setAtDoor[door];
            int setWithIt = set | (1 << place);
            int[] costs = orders[door].costs;
            setAtDoor[door] = setWithIt;
            chosen[place] = door;
            choose(doorCount, size, place + 1, cost - costs[set] + costs[setWithIt]);
            setAtDoor[door] = set;
        }

        private void chooseNothing(int doorCount, int size, int place, int cost) {
            chosen[place] = NONE;
            choose(doorCount, size, place + 1, cost + COST_OF_NOTHING);
        }
    }
}
