import java.util.NoSuchElementException;

/** Boundary cases of promises 4 to 7 and 16: one method for each. */
public final class PlanEdgeTest {
    private static final Check CHECK = new Check("PlanEdgeTest");
    private static final Class<IllegalArgumentException> RANGE = IllegalArgumentException.class;
    private static final Class<NoSuchElementException> NONE_SUCH = NoSuchElementException.class;
    private static final int MIN = Integer.MIN_VALUE;
    private static final int MAX = Integer.MAX_VALUE;

    public static void main(String[] args) {
        promise4MostTooSmallAndTooLarge();
        promise4NoTrucks();
        promise4NoDoors();
        promise4NoneWaits();
        promise4AllRoomExactly();
        promise4AllRoomByRule();
        promise4WaitingOnesAlone();
        promise4PlannedAnew();
        promise4FewerTrucksThanBefore();
        promise5FalseBefore();
        promise5OfTheLastPlanning();
        promise5RefusedPlanningIsNone();
        promise6NoneBefore();
        promise6NothingToNothing();
        promise6NothingToSomething();
        promise6SomethingToNothing();
        promise6AnotherDoorAlone();
        promise6AnotherStartAlone();
        promise6TheSameAgain();
        promise6OfTheLastPlanning();
        promise6WaitingOnesAlone();
        promise6AllOfThem();
        promise7NoTrucksOrDoors();
        promise7EachToItself();
        promise7TheLeastOfDoors();
        promise7AtTheClosing();
        promise7AsDoorsAreFree();
        promise7NeverAboveAPlan();
        promise16NoSuchDoor();
        promise16NotSoMany();
        promise16FullDoor();
        promise16ByStartThenByNumber();
        promise16WaitingOnesAlone();
        CHECK.finish();
    }

    private static DockBook oneDoor(int from, int to, int[]... trucks) {
        return Books.of(Books.rows(Books.row(1, from, to)), trucks);
    }

    private static DockBook twoAlike() {
        return oneDoor(0, 100, Books.row(0, 0, 10, 1), Books.row(0, 0, 10, 1));
    }

    private static void promise4MostTooSmallAndTooLarge() {
        DockBook book = twoAlike();
        for (int most : new int[] {MIN, -1, 6, MAX}) {
            CHECK.refused("assign(" + most + ")", RANGE, () -> book.assign(most));
            CHECK.same("plan behind it", Books.plan(book, 2), "- -");
        }
        for (int most = 0; most <= 5; most++) {
            CHECK.same("assign(" + most + ")", book.assign(most), 10);
        }
    }

    private static void promise4NoTrucks() {
        for (int most = 0; most <= 5; most++) {
            CHECK.same("nothing at all", new DockBook().assign(most), 0);
            DockBook book = oneDoor(0, 10);
            CHECK.same("a door alone", book.assign(most), 0);
            CHECK.same("none for " + most, book.exact(), true);
        }
    }

    private static void promise4NoDoors() {
        for (int most = 0; most <= 5; most++) {
            DockBook book = new DockBook();
            for (int trucks = 1; trucks <= 6; trucks++) {
                book.truck(0, 0, 1, 1);
                CHECK.same(trucks + " trucks, assign(" + most + ")", book.assign(most), 5000 * trucks);
                CHECK.same("exact", book.exact(), trucks <= most);
            }
            CHECK.same("plan", Books.plan(book, 6), "- - - - - -");
        }
    }

    private static void promise4NoneWaits() {
        DockBook book = twoAlike();
        book.assign(5);
        book.call(0);
        book.cancel(1);
        CHECK.same("one at a door, one cancelled", book.assign(0), 0);
        CHECK.same("exact", book.exact(), true);
        CHECK.same("the plan of the one at its door", Books.plan(book, 2), "0@0 -");
    }

    private static void promise4AllRoomExactly() {
        DockBook book = Books.of(Books.rows(Books.row(255, 0, 2000), Books.row(255, 0, 2000), Books.row(255, 0, 2000),
                Books.row(255, 0, 2000)), Books.rows());
        for (int i = 0; i < 12; i++) {
            book.truck(i % 8, 0, 300, 9 - i % 9);
        }
        for (int i = 0; i < 7; i++) {
            book.cancel(i);
        }
        CHECK.same("the last five of twelve", book.assign(5), 300);
        CHECK.same("exact", book.exact(), true);
        CHECK.same("plan", Books.plan(book, 12), "- - - - - - - 0@0 0@300 1@0 2@0 3@0");
    }

    private static void promise4AllRoomByRule() {
        DockBook book = oneDoor(0, 120);
        for (int i = 0; i < 12; i++) {
            book.truck(0, 0, 10, 9 - i / 2);
        }
        CHECK.same("twelve behind one another", book.assign(5), 10 * 66);
        CHECK.same("exact", book.exact(), false);
        CHECK.same("plan", Books.plan(book, 12),
                "0@100 0@110 0@80 0@90 0@60 0@70 0@40 0@50 0@20 0@30 0@0 0@10");
        DockBook shorter = oneDoor(0, 119);
        for (int i = 0; i < 12; i++) {
            shorter.truck(0, 0, 10, 1);
        }
        CHECK.same("the last has no room", shorter.assign(5), 10 * 55 + 5000);
        CHECK.same("its plan", shorter.told(11, 1), -1);
    }

    private static void promise4WaitingOnesAlone() {
        for (int most : new int[] {5, 0}) {
            DockBook book = oneDoor(0, 100, Books.row(0, 0, 10, 1), Books.row(0, 0, 11, 1), Books.row(0, 0, 12, 1),
                    Books.row(0, 0, 13, 1));
            book.assign(5);
            book.call(0);
            book.pass(10);
            Books.clearAndDepart(book, 0);
            book.call(1);
            book.cancel(2);
            CHECK.same("gone, at the door, cancelled", book.assign(most), 21);
            CHECK.same("plan", Books.plan(book, 4), "0@0 0@10 - 0@21");
        }
    }

    private static void promise4PlannedAnew() {
        DockBook book = oneDoor(0, 30, Books.row(0, 0, 10, 1), Books.row(0, 0, 20, 1));
        book.assign(5);
        CHECK.same("at first", Books.plan(book, 2), "0@0 0@10");
        book.truck(0, 0, 5, 1);
        book.assign(5);
        CHECK.same("a shorter truck takes the place", Books.plan(book, 3), "0@5 - 0@0");
        book.cancel(2);
        book.assign(5);
        CHECK.same("the place comes back", Books.plan(book, 3), "0@0 0@10 -");
        book.pass(30);
        book.assign(5);
        CHECK.same("the door is closed", Books.plan(book, 3), "- - -");
    }

    /** What an earlier planning left in rows that are used again must not be seen. */
    private static void promise4FewerTrucksThanBefore() {
        DockBook book = Books.of(Books.rows(Books.row(1, 0, 100), Books.row(1, 0, 100)),
                Books.rows(Books.row(0, 0, 10, 1), Books.row(0, 0, 10, 1), Books.row(0, 0, 10, 1),
                        Books.row(0, 0, 10, 1), Books.row(0, 0, 10, 1)));
        CHECK.same("five", book.assign(5), 10 + 20 + 10);
        for (int i = 0; i < 4; i++) {
            book.cancel(i);
        }
        CHECK.same("one", book.assign(5), 0);
        CHECK.same("plan", Books.plan(book, 5), "- - - - 0@0");
        book.out(0, true);
        CHECK.same("at the other door", book.assign(1), 0);
        CHECK.same("plan there", Books.plan(book, 5), "- - - - 1@0");
    }

    private static void promise5FalseBefore() {
        DockBook book = twoAlike();
        CHECK.same("before any planning", book.exact(), false);
        book.pass(5);
        book.cancel(0);
        CHECK.same("other calls are no planning", book.exact(), false);
    }

    private static void promise5OfTheLastPlanning() {
        DockBook book = twoAlike();
        book.assign(2);
        CHECK.same("two for two", book.exact(), true);
        book.assign(1);
        CHECK.same("two for one", book.exact(), false);
        book.cancel(0);
        CHECK.same("one less, but no new planning", book.exact(), false);
        book.assign(1);
        CHECK.same("one for one", book.exact(), true);
        book.assign(0);
        CHECK.same("one for none", book.exact(), false);
        book.cancel(1);
        book.assign(0);
        CHECK.same("none for none", book.exact(), true);
    }

    private static void promise5RefusedPlanningIsNone() {
        DockBook book = twoAlike();
        CHECK.refused("assign(6)", RANGE, () -> book.assign(6));
        CHECK.same("false as before", book.exact(), false);
        book.assign(5);
        CHECK.refused("assign(-1)", RANGE, () -> book.assign(-1));
        CHECK.same("true as before", book.exact(), true);
    }

    private static void promise6NoneBefore() {
        CHECK.same("a new object", new DockBook().moved(), 0);
        CHECK.same("before any planning", twoAlike().moved(), 0);
    }

    private static void promise6NothingToNothing() {
        for (int most : new int[] {5, 0}) {
            DockBook book = new DockBook();
            book.truck(0, 0, 1, 1);
            book.assign(most);
            CHECK.same("no door", book.moved(), 0);
        }
    }

    private static void promise6NothingToSomething() {
        for (int most : new int[] {5, 0}) {
            DockBook book = twoAlike();
            book.assign(most);
            CHECK.same("both", book.moved(), 2);
            book.truck(0, 0, 10, 1);
            book.assign(most);
            CHECK.same("the new one", book.moved(), 1);
        }
    }

    private static void promise6SomethingToNothing() {
        for (int most : new int[] {5, 0}) {
            DockBook book = twoAlike();
            book.assign(most);
            book.pass(95);
            book.assign(most);
            CHECK.same("both", book.moved(), 2);
            book.assign(most);
            CHECK.same("they have nothing already", book.moved(), 0);
        }
    }

    private static void promise6AnotherDoorAlone() {
        for (int most : new int[] {5, 0}) {
            DockBook book = Books.of(Books.rows(Books.row(2, 0, 100), Books.row(3, 0, 100)),
                    Books.rows(Books.row(1, 0, 10, 1), Books.row(0, 0, 10, 2)));
            book.out(0, true);
            book.assign(most);
            CHECK.same("one behind the other", Books.plan(book, 2), "1@0 1@10");
            book.cancel(1);
            book.out(0, false);
            book.assign(most);
            CHECK.same("the same start at another door", Books.plan(book, 1), "0@0");
            CHECK.same("moved", book.moved(), 1);
        }
    }

    private static void promise6AnotherStartAlone() {
        for (int most : new int[] {5, 0}) {
            DockBook book = twoAlike();
            book.assign(most);
            book.pass(1);
            book.assign(most);
            CHECK.same("a minute later", Books.plan(book, 2), "0@1 0@11");
            CHECK.same("moved", book.moved(), 2);
            book.late(0, 60);
            book.assign(most);
            CHECK.same("one later, one before", Books.plan(book, 2), "0@60 0@1");
            CHECK.same("moved then", book.moved(), 2);
        }
    }

    private static void promise6TheSameAgain() {
        DockBook book = twoAlike();
        book.assign(5);
        book.assign(5);
        CHECK.same("exactly twice", book.moved(), 0);
        book.assign(0);
        CHECK.same("by rule the same plan", book.moved(), 0);
    }

    private static void promise6OfTheLastPlanning() {
        DockBook book = twoAlike();
        book.assign(5);
        book.cancel(0);
        book.late(1, 50);
        book.out(0, true);
        CHECK.same("later calls change nothing", book.moved(), 2);
        CHECK.refused("assign(6)", RANGE, () -> book.assign(6));
        CHECK.same("nor does a refusal", book.moved(), 2);
        book.assign(5);
        CHECK.same("it lost its plan before, not by the planning", book.moved(), 0);
    }

    private static void promise6WaitingOnesAlone() {
        DockBook book = oneDoor(0, 100, Books.row(0, 0, 10, 1), Books.row(0, 0, 10, 1), Books.row(0, 0, 10, 1));
        book.assign(5);
        book.pass(3);
        book.call(0);
        book.cancel(1);
        book.assign(5);
        CHECK.same("plan", Books.plan(book, 3), "0@3 - 0@13");
        CHECK.same("moved", book.moved(), 1);
    }

    private static void promise6AllOfThem() {
        DockBook book = oneDoor(0, 2000);
        for (int i = 0; i < 12; i++) {
            book.truck(0, 0, 10, 1);
        }
        book.assign(5);
        CHECK.same("twelve", book.moved(), 12);
        book.pass(1);
        book.assign(5);
        CHECK.same("twelve a minute later", book.moved(), 12);
    }

    private static void promise7NoTrucksOrDoors() {
        CHECK.same("nothing at all", new DockBook().bound(), 0);
        CHECK.same("a door alone", oneDoor(5, 10).bound(), 0);
        DockBook book = new DockBook();
        book.truck(0, 0, 1, 1);
        CHECK.same("a truck alone", book.bound(), 5000);
        book.cancel(0);
        CHECK.same("it is cancelled", book.bound(), 0);
    }

    private static void promise7EachToItself() {
        DockBook book = oneDoor(5, 15, Books.row(0, 0, 10, 1), Books.row(0, 1, 10, 1), Books.row(0, 2, 10, 1));
        CHECK.same("three for one place", book.bound(), 5 + 4 + 3);
        book.assign(5);
        CHECK.same("plans change nothing", book.bound(), 5 + 4 + 3);
        CHECK.same("the plan costs more", book.count(7), 5000 + 5000 + 3);
    }

    private static void promise7TheLeastOfDoors() {
        DockBook book = Books.of(Books.rows(Books.row(1, 9, 100), Books.row(1, 8, 17), Books.row(2, 0, 100),
                Books.row(1, 7, 100)), Books.rows(Books.row(0, 0, 10, 1)));
        CHECK.same("the last door", book.bound(), 7);
        book.out(3, true);
        CHECK.same("the last door is out, the second closes too early", book.bound(), 9);
        book.out(0, true);
        CHECK.same("none is left", book.bound(), 5000);
    }

    private static void promise7AtTheClosing() {
        CHECK.same("it ends at the closing", oneDoor(5, 15, Books.row(0, 0, 10, 1)).bound(), 5);
        CHECK.same("it ends one behind it", oneDoor(5, 15, Books.row(0, 0, 11, 1)).bound(), 5000);
        DockBook book = oneDoor(0, 15, Books.row(0, 0, 10, 1));
        book.pass(5);
        CHECK.same("just in time", book.bound(), 5);
        book.pass(6);
        CHECK.same("too late", book.bound(), 5000);
    }

    private static void promise7AsDoorsAreFree() {
        DockBook book = oneDoor(0, 100, Books.row(0, 0, 20, 1));
        book.assign(5);
        book.call(0);
        book.truck(0, 3, 10, 1);
        CHECK.same("behind the one at the door", book.bound(), 17);
        book.pass(20);
        CHECK.same("at its end", book.bound(), 17);
        book.pass(25);
        CHECK.same("it is still there, but free is now", book.bound(), 22);
        Books.clearAndDepart(book, 0);
        CHECK.same("it is gone", book.bound(), 22);
    }

    private static void promise7NeverAboveAPlan() {
        DockBook book = Books.of(Books.rows(Books.row(3, 5, 60), Books.row(1, 0, 40)), Books.rows());
        for (int i = 0; i < 12; i++) {
            book.truck(i % 3, 4 * i, 5 + i, 1 + i % 4);
            for (int most = 0; most <= 5; most++) {
                int cost = book.assign(most);
                CHECK.same("bound is at most the cost of " + (i + 1), book.bound() <= cost, true);
                CHECK.same("the cost that is told", book.count(7), cost);
            }
        }
    }

    private static void promise16NoSuchDoor() {
        CHECK.refused("none at all", NONE_SUCH, () -> new DockBook().order(0, 0));
        DockBook book = twoAlike();
        book.assign(5);
        for (int door : new int[] {MIN, -1, 1, 4, MAX}) {
            CHECK.refused("order(" + door + ", 0)", NONE_SUCH, () -> book.order(door, 0));
        }
    }

    private static void promise16NotSoMany() {
        DockBook book = twoAlike();
        CHECK.refused("nothing planned", NONE_SUCH, () -> book.order(0, 0));
        book.assign(5);
        for (int i : new int[] {MIN, -1, 2, 11, 12, MAX}) {
            CHECK.refused("order(0, " + i + ")", NONE_SUCH, () -> book.order(0, i));
        }
        CHECK.same("the first", book.order(0, 0), 0);
        CHECK.same("the last", book.order(0, 1), 1);
    }

    private static void promise16FullDoor() {
        DockBook book = oneDoor(0, 2000);
        for (int i = 0; i < 12; i++) {
            book.truck(0, 11 - i, 10, 1);
        }
        book.assign(5);
        for (int i = 0; i < 12; i++) {
            CHECK.same("order(0, " + i + ")", book.order(0, i), 11 - i);
        }
        CHECK.refused("order(0, 12)", NONE_SUCH, () -> book.order(0, 12));
    }

    private static void promise16ByStartThenByNumber() {
        // Starts at one door are never the same, since each need is a minute at least; the number must not go first.
        DockBook book = oneDoor(0, 100, Books.row(0, 5, 10, 1), Books.row(0, 5, 10, 1), Books.row(0, 0, 5, 1));
        book.assign(5);
        CHECK.same("by start", Books.plan(book, 3), "0@5 0@15 0@0");
        CHECK.same("order(0, 0)", book.order(0, 0), 2);
        CHECK.same("order(0, 1)", book.order(0, 1), 0);
        CHECK.same("order(0, 2)", book.order(0, 2), 1);
    }

    private static void promise16WaitingOnesAlone() {
        DockBook book = oneDoor(0, 100, Books.row(0, 0, 10, 1), Books.row(0, 0, 11, 1), Books.row(0, 0, 12, 1),
                Books.row(0, 0, 13, 1));
        book.assign(5);
        book.call(0);
        CHECK.same("not the one at the door", book.order(0, 0), 1);
        book.cancel(1);
        CHECK.same("nor a cancelled one", book.order(0, 0), 2);
        book.late(2, 100);
        CHECK.same("nor one that lost its plan", book.order(0, 0), 3);
        CHECK.refused("no other", NONE_SUCH, () -> book.order(0, 1));
        book.out(0, true);
        CHECK.refused("none when the door is out", NONE_SUCH, () -> book.order(0, 0));
        book.pass(10);
        Books.clearAndDepart(book, 0);
        CHECK.refused("nor one that is gone", NONE_SUCH, () -> book.order(0, 0));
    }
}
