import java.util.NoSuchElementException;

/** Boundary cases of promises 1 to 3, 15 and 17 to 19: one method for each. */
public final class RegistryEdgeTest {
    private static final Check CHECK = new Check("RegistryEdgeTest");
    private static final Class<IllegalArgumentException> RANGE = IllegalArgumentException.class;
    private static final Class<NoSuchElementException> NONE_SUCH = NoSuchElementException.class;
    private static final Class<UnsupportedOperationException> NO_ROOM = UnsupportedOperationException.class;
    private static final int MIN = Integer.MIN_VALUE;
    private static final int MAX = Integer.MAX_VALUE;

    public static void main(String[] args) {
        promise1NothingInIt();
        promise1ObjectsAreApart();
        promise2KindsTooSmallAndTooLarge();
        promise2FromTooSmallAndTooLarge();
        promise2ToTooSmallAndTooLarge();
        promise2WrapAround();
        promise2Full();
        promise2NumbersGoOnBehindARefusal();
        promise3KindTooSmallAndTooLarge();
        promise3ArrivalTooSmallAndTooLarge();
        promise3NeedTooSmallAndTooLarge();
        promise3RankTooSmallAndTooLarge();
        promise3Full();
        promise3NumbersGoOnBehindARefusal();
        promise3NothingIsPlanned();
        promise15TooSmallAndTooLarge();
        promise15BeforeNow();
        promise15TheSameTime();
        promise15PlansStay();
        promise17NoSuchTruck();
        promise17WhatTooSmallAndTooLarge();
        promise17TruckBeforeWhat();
        promise17MinutesOfDeparture();
        promise17DoorAndStartOfEachState();
        promise18NoSuchDoor();
        promise18WhatTooSmallAndTooLarge();
        promise18DoorBeforeWhat();
        promise18TruckAtIt();
        promise18FullOfPlans();
        promise19WhatTooSmallAndTooLarge();
        promise19EmptyAndFull();
        promise19CostOfWhatIsTold();
        CHECK.finish();
    }

    private static void doorRefused(int kinds, int from, int to) {
        DockBook book = new DockBook();
        CHECK.refused("door(" + kinds + ", " + from + ", " + to + ")", RANGE, () -> book.door(kinds, from, to));
        CHECK.same("doors behind it", book.count(0), 0);
    }

    private static void doorTaken(int kinds, int from, int to) {
        DockBook book = new DockBook();
        CHECK.same("door(" + kinds + ", " + from + ", " + to + ")", book.door(kinds, from, to), 0);
        CHECK.same("its kinds", book.known(0, 3), kinds);
    }

    private static void truckRefused(int kind, int arrival, int need, int rank) {
        DockBook book = new DockBook();
        CHECK.refused("truck(" + kind + ", " + arrival + ", " + need + ", " + rank + ")", RANGE,
                () -> book.truck(kind, arrival, need, rank));
        CHECK.same("trucks behind it", book.count(1), 0);
    }

    private static void truckTaken(int kind, int arrival, int need, int rank) {
        DockBook book = new DockBook();
        CHECK.same("truck(" + kind + ", " + arrival + ", " + need + ", " + rank + ")",
                book.truck(kind, arrival, need, rank), 0);
        int[] due = {0, -1, -1, arrival, need, rank, kind, -1};
        for (int what = 0; what <= 7; what++) {
            CHECK.same("told(0, " + what + ")", book.told(0, what), due[what]);
        }
    }

    private static void promise1NothingInIt() {
        CHECK.same("all that a new object tells", Books.all(new DockBook()), "false 0 0 0 0 0 0 0 0 0 0");
    }

    private static void promise1ObjectsAreApart() {
        DockBook one = Books.of(Books.rows(Books.row(1, 0, 10)), Books.rows(Books.row(0, 0, 1, 1)));
        DockBook other = new DockBook();
        one.assign(5);
        one.pass(3);
        CHECK.same("another object", Books.all(other), "false 0 0 0 0 0 0 0 0 0 0");
        other.door(2, 0, 10);
        other.truck(1, 5, 1, 1);
        other.assign(0);
        CHECK.same("the first one's kinds", one.known(0, 3), 1);
        CHECK.same("the first one's arrival", one.told(0, 3), 0);
        CHECK.same("the first one's planning", one.exact(), true);
    }

    private static void promise2KindsTooSmallAndTooLarge() {
        doorRefused(MIN, 0, 1);
        doorRefused(-1, 0, 1);
        doorRefused(0, 0, 1);
        doorTaken(1, 0, 1);
        doorTaken(255, 0, 1);
        doorRefused(256, 0, 1);
        doorRefused(257, 0, 1);
        doorRefused(MAX, 0, 1);
    }

    private static void promise2FromTooSmallAndTooLarge() {
        doorRefused(1, MIN, 1);
        doorRefused(1, -1, 1);
        doorTaken(1, 0, 2000);
        doorTaken(1, 1999, 2000);
        doorRefused(1, 2000, 2000);
        doorRefused(1, 2000, 2001);
        doorRefused(1, 2001, 2002);
    }

    private static void promise2ToTooSmallAndTooLarge() {
        doorRefused(1, 5, MIN);
        doorRefused(1, 5, -1);
        doorRefused(1, 5, 4);
        doorRefused(1, 5, 5);
        doorTaken(1, 5, 6);
        doorTaken(1, 5, 2000);
        doorRefused(1, 5, 2001);
        doorRefused(1, 5, MAX);
        doorRefused(1, 0, 0);
    }

    private static void promise2WrapAround() {
        doorRefused(1, MAX, MIN);
        doorRefused(1, MAX, 0);
        doorRefused(1, MAX, MAX);
        doorRefused(1, MIN, MIN);
        doorRefused(1, MIN, MAX);
    }

    private static void promise2Full() {
        DockBook book = Books.of(Books.rows(Books.row(1, 0, 9), Books.row(2, 0, 9), Books.row(4, 0, 9),
                Books.row(8, 0, 9)), Books.rows());
        CHECK.refused("a fifth door", NO_ROOM, () -> book.door(1, 0, 9));
        CHECK.refused("a fifth door with wrong kinds", RANGE, () -> book.door(256, 0, 9));
        CHECK.refused("a fifth door with a wrong opening", RANGE, () -> book.door(1, -1, 9));
        CHECK.refused("a fifth door with a wrong closing", RANGE, () -> book.door(1, 9, 9));
        CHECK.same("the fourth door stays", book.known(3, 3), 8);
        CHECK.refused("there is no door 4", NONE_SUCH, () -> book.known(4, 3));
    }

    private static void promise2NumbersGoOnBehindARefusal() {
        DockBook book = new DockBook();
        CHECK.same("the first", book.door(1, 0, 1), 0);
        CHECK.refused("a wrong one", RANGE, () -> book.door(2, 1, 1));
        CHECK.same("the second", book.door(4, 0, 1), 1);
        CHECK.same("kinds of the second", book.known(1, 3), 4);
    }

    private static void promise3KindTooSmallAndTooLarge() {
        truckRefused(MIN, 0, 1, 1);
        truckRefused(-1, 0, 1, 1);
        truckTaken(0, 0, 1, 1);
        truckTaken(7, 0, 1, 1);
        truckRefused(8, 0, 1, 1);
        truckRefused(MAX, 0, 1, 1);
    }

    private static void promise3ArrivalTooSmallAndTooLarge() {
        truckRefused(0, MIN, 1, 1);
        truckRefused(0, -1, 1, 1);
        truckTaken(0, 0, 1, 1);
        truckTaken(0, 2000, 1, 1);
        truckRefused(0, 2001, 1, 1);
        truckRefused(0, MAX, 1, 1);
        DockBook book = new DockBook();
        book.pass(2000);
        CHECK.same("an arrival before now", book.truck(0, 0, 1, 1), 0);
    }

    private static void promise3NeedTooSmallAndTooLarge() {
        truckRefused(0, 0, MIN, 1);
        truckRefused(0, 0, -1, 1);
        truckRefused(0, 0, 0, 1);
        truckTaken(0, 0, 1, 1);
        truckTaken(0, 0, 300, 1);
        truckRefused(0, 0, 301, 1);
        truckRefused(0, 0, MAX, 1);
    }

    private static void promise3RankTooSmallAndTooLarge() {
        truckRefused(0, 0, 1, MIN);
        truckRefused(0, 0, 1, -1);
        truckRefused(0, 0, 1, 0);
        truckTaken(0, 0, 1, 1);
        truckTaken(0, 0, 1, 9);
        truckRefused(0, 0, 1, 10);
        truckRefused(0, 0, 1, MAX);
    }

    private static DockBook twelveTrucks() {
        DockBook book = new DockBook();
        for (int i = 0; i < 12; i++) {
            book.truck(i % 8, i, 1 + i, 1 + i % 9);
        }
        return book;
    }

    private static void promise3Full() {
        DockBook book = twelveTrucks();
        CHECK.refused("a thirteenth truck", NO_ROOM, () -> book.truck(0, 0, 1, 1));
        CHECK.refused("with a wrong kind", RANGE, () -> book.truck(8, 0, 1, 1));
        CHECK.refused("with a wrong arrival", RANGE, () -> book.truck(0, 2001, 1, 1));
        CHECK.refused("with a wrong need", RANGE, () -> book.truck(0, 0, 301, 1));
        CHECK.refused("with a wrong rank", RANGE, () -> book.truck(0, 0, 1, 10));
        CHECK.same("the twelfth truck stays", book.told(11, 3), 11);
        CHECK.refused("there is no truck 12", NONE_SUCH, () -> book.told(12, 0));
    }

    private static void promise3NumbersGoOnBehindARefusal() {
        DockBook book = new DockBook();
        CHECK.same("the first", book.truck(1, 2, 3, 4), 0);
        CHECK.refused("a wrong one", RANGE, () -> book.truck(2, 3, 4, 10));
        CHECK.same("the second", book.truck(3, 4, 5, 6), 1);
        CHECK.same("kind of the second", book.told(1, 6), 3);
    }

    private static void promise3NothingIsPlanned() {
        DockBook book = Books.of(Books.rows(Books.row(1, 0, 10)), Books.rows(Books.row(0, 0, 1, 1)));
        book.assign(5);
        book.truck(0, 0, 1, 1);
        CHECK.same("a truck behind a planning", Books.plan(book, 2), "0@0 -");
        CHECK.same("it is not at the door's row", book.known(0, 2), 1);
        CHECK.same("it costs 5000", book.count(7), 5000);
    }

    private static void promise15TooSmallAndTooLarge() {
        for (int time : new int[] {MIN, -1, 2001, MAX}) {
            DockBook book = new DockBook();
            CHECK.refused("pass(" + time + ")", RANGE, () -> book.pass(time));
            CHECK.same("now behind it", book.count(6), 0);
        }
        for (int time : new int[] {0, 1, 1999, 2000}) {
            DockBook book = new DockBook();
            CHECK.quiet("pass(" + time + ")", () -> book.pass(time));
            CHECK.same("now behind it", book.count(6), time);
        }
    }

    private static void promise15BeforeNow() {
        DockBook book = new DockBook();
        book.pass(2000);
        for (int time : new int[] {MIN, -1, 0, 1999, 2001}) {
            CHECK.refused("pass(" + time + ") at 2000", RANGE, () -> book.pass(time));
        }
        CHECK.same("now", book.count(6), 2000);
    }

    private static void promise15TheSameTime() {
        DockBook book = new DockBook();
        for (int time : new int[] {0, 0, 5, 5, 2000, 2000}) {
            CHECK.quiet("pass(" + time + ")", () -> book.pass(time));
            CHECK.same("now", book.count(6), time);
        }
    }

    private static void promise15PlansStay() {
        DockBook book = Books.of(Books.rows(Books.row(1, 0, 10)), Books.rows(Books.row(0, 0, 10, 1)));
        book.assign(5);
        book.pass(2000);
        CHECK.same("a plan that can't be held any more", Books.plan(book, 1), "0@0");
        CHECK.same("its cost", book.count(7), 0);
        CHECK.same("the bound knows", book.bound(), 5000);
    }

    private static void promise17NoSuchTruck() {
        DockBook empty = new DockBook();
        CHECK.refused("none at all", NONE_SUCH, () -> empty.told(0, 0));
        DockBook full = twelveTrucks();
        for (int truck : new int[] {MIN, -1, 12, MAX}) {
            CHECK.refused("told(" + truck + ", 0)", NONE_SUCH, () -> full.told(truck, 0));
        }
        CHECK.same("the first", full.told(0, 4), 1);
        CHECK.same("the last", full.told(11, 4), 12);
    }

    private static void promise17WhatTooSmallAndTooLarge() {
        DockBook book = twelveTrucks();
        for (int what : new int[] {MIN, -1, 8, MAX}) {
            CHECK.refused("told(11, " + what + ")", RANGE, () -> book.told(11, what));
        }
        CHECK.same("told(11, 0)", book.told(11, 0), 0);
        CHECK.same("told(11, 7)", book.told(11, 7), -1);
    }

    private static void promise17TruckBeforeWhat() {
        DockBook book = twelveTrucks();
        CHECK.refused("told(12, 8)", NONE_SUCH, () -> book.told(12, 8));
        CHECK.refused("told(-1, -1)", NONE_SUCH, () -> book.told(-1, -1));
    }

    private static void promise17MinutesOfDeparture() {
        DockBook book = Books.of(Books.rows(Books.row(1, 0, 2000)),
                Books.rows(Books.row(0, 0, 1, 1), Books.row(0, 0, 1, 1)));
        book.assign(5);
        book.call(0);
        CHECK.same("at the door", book.told(0, 7), -1);
        book.pass(1);
        Books.clearAndDepart(book, 0);
        CHECK.same("at once", book.told(0, 7), 1);
        book.call(1);
        book.pass(2000);
        CHECK.same("gone at another time", book.told(0, 7), 1);
        Books.clearAndDepart(book, 1);
        CHECK.same("the longest stay", book.told(1, 7), 2000);
        DockBook later = Books.of(Books.rows(Books.row(1, 0, 2000)), Books.rows(Books.row(0, 9, 1, 1)));
        later.assign(5);
        later.late(0, 4);
        later.pass(10);
        later.call(0);
        later.pass(11);
        Books.clearAndDepart(later, 0);
        CHECK.same("from the arrival that was told last", later.told(0, 7), 7);
    }

    private static void promise17DoorAndStartOfEachState() {
        DockBook book = Books.of(Books.rows(Books.row(1, 0, 100)),
                Books.rows(Books.row(0, 0, 5, 1), Books.row(0, 0, 6, 1)));
        CHECK.same("waiting with nothing", Books.plan(book, 2), "- -");
        book.assign(5);
        CHECK.same("waiting and planned", Books.plan(book, 2), "0@0 0@5");
        book.pass(2);
        book.call(0);
        CHECK.same("at it from the call", Books.plan(book, 2), "0@2 0@5");
        book.out(0, true);
        CHECK.same("at a door that is out", Books.plan(book, 2), "0@2 -");
        book.pass(7);
        Books.clearAndDepart(book, 0);
        CHECK.same("gone from it", Books.plan(book, 2), "0@2 -");
        book.out(0, false);
        book.assign(5);
        CHECK.same("gone, and another planned", Books.plan(book, 2), "0@2 0@7");
        book.cancel(1);
        CHECK.same("cancelled with a plan", Books.plan(book, 2), "0@2 -");
    }

    private static void promise18NoSuchDoor() {
        CHECK.refused("none at all", NONE_SUCH, () -> new DockBook().known(0, 0));
        DockBook one = Books.of(Books.rows(Books.row(1, 0, 9)), Books.rows());
        for (int door : new int[] {MIN, -1, 1, 3, 4, MAX}) {
            CHECK.refused("known(" + door + ", 3)", NONE_SUCH, () -> one.known(door, 3));
        }
        CHECK.same("the first", one.known(0, 3), 1);
    }

    private static void promise18WhatTooSmallAndTooLarge() {
        DockBook book = Books.of(Books.rows(Books.row(1, 0, 9)), Books.rows());
        for (int what : new int[] {MIN, -1, 5, MAX}) {
            CHECK.refused("known(0, " + what + ")", RANGE, () -> book.known(0, what));
        }
        CHECK.same("known(0, 0)", book.known(0, 0), -1);
        CHECK.same("known(0, 4)", book.known(0, 4), 0);
    }

    private static void promise18DoorBeforeWhat() {
        DockBook book = Books.of(Books.rows(Books.row(1, 0, 9)), Books.rows());
        CHECK.refused("known(1, 5)", NONE_SUCH, () -> book.known(1, 5));
        CHECK.refused("known(-1, -1)", NONE_SUCH, () -> book.known(-1, -1));
    }

    private static void promise18TruckAtIt() {
        DockBook book = Books.of(Books.rows(Books.row(1, 0, 100)), Books.rows(Books.row(0, 0, 5, 1)));
        CHECK.same("none", book.known(0, 0), -1);
        book.assign(5);
        CHECK.same("planned is not at it", book.known(0, 0), -1);
        book.call(0);
        CHECK.same("truck 0, not none", book.known(0, 0), 0);
        book.pass(50);
        CHECK.same("behind its end it is still at it", book.known(0, 0), 0);
        CHECK.same("departed before", book.known(0, 4), 0);
        Books.clearAndDepart(book, 0);
        CHECK.same("none again", book.known(0, 0), -1);
        CHECK.same("departed", book.known(0, 4), 1);
    }

    private static void promise18FullOfPlans() {
        DockBook book = Books.of(Books.rows(Books.row(255, 0, 2000)), Books.rows());
        for (int i = 0; i < 12; i++) {
            book.truck(i % 8, 0, 10, 1);
        }
        CHECK.same("none planned", book.known(0, 2), 0);
        book.assign(0);
        CHECK.same("all planned", book.known(0, 2), 12);
        for (int i = 0; i < 12; i++) {
            book.call(i);
            CHECK.same("planned behind call " + i, book.known(0, 2), 11 - i);
            book.pass(10 + 10 * i);
            Books.clearAndDepart(book, i);
            CHECK.same("departed behind " + i, book.known(0, 4), i + 1);
        }
        CHECK.same("all gone", book.count(4), 12);
    }

    private static void promise19WhatTooSmallAndTooLarge() {
        DockBook book = twelveTrucks();
        for (int what : new int[] {MIN, -1, 8, 9, MAX}) {
            CHECK.same("count(" + what + ")", book.count(what), -1);
        }
    }

    private static void promise19EmptyAndFull() {
        DockBook book = twelveTrucks();
        int[] due = {0, 12, 12, 0, 0, 0, 0, 60000};
        for (int what = 0; what <= 7; what++) {
            CHECK.same("count(" + what + ") of an empty one", new DockBook().count(what), 0);
            CHECK.same("count(" + what + ") of twelve trucks", book.count(what), due[what]);
        }
        for (int i = 0; i < 12; i++) {
            book.cancel(i);
            CHECK.same("waiting", book.count(2), 11 - i);
            CHECK.same("cancelled", book.count(5), i + 1);
        }
        CHECK.same("trucks", book.count(1), 12);
        CHECK.same("cost of none", book.count(7), 0);
    }

    private static void promise19CostOfWhatIsTold() {
        DockBook book = Books.of(Books.rows(Books.row(1, 10, 100)),
                Books.rows(Books.row(0, 10, 10, 1), Books.row(0, 10, 20, 1)));
        CHECK.same("no plan yet", book.count(7), 10000);
        book.assign(5);
        CHECK.same("planned", book.count(7), 0 + 10);
        book.late(1, 20);
        CHECK.same("it comes at its start", book.count(7), 0);
        book.late(1, 21);
        CHECK.same("it comes a minute behind it", book.count(7), 5000);
        book.late(0, 0);
        CHECK.same("the other comes before", book.count(7), 5010);
        book.pass(10);
        book.call(0);
        CHECK.same("one at a door costs nothing", book.count(7), 5000);
        book.cancel(1);
        CHECK.same("nor a cancelled one", book.count(7), 0);
    }
}
