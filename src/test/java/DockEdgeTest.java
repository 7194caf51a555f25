import java.util.NoSuchElementException;

/** Boundary cases of promises 8 to 14: one method for each. */
public final class DockEdgeTest {
    private static final Check CHECK = new Check("DockEdgeTest");
    private static final Class<IllegalArgumentException> RANGE = IllegalArgumentException.class;
    private static final Class<IllegalStateException> STATE = IllegalStateException.class;
    private static final Class<NoSuchElementException> NONE_SUCH = NoSuchElementException.class;
    private static final int MIN = Integer.MIN_VALUE;
    private static final int MAX = Integer.MAX_VALUE;
    /** Numbers of trucks that a book of five trucks has not. */
    private static final int[] NO_TRUCKS = {MIN, -1, 5, 11, 12, MAX};

    private static final int GONE = 0;
    private static final int AT_DOOR = 1;
    private static final int CANCELLED = 2;
    private static final int PLANNED = 3;
    private static final int UNPLANNED = 4;

    public static void main(String[] args) {
        promise8NoSuchTruck();
        promise8NotWaiting();
        promise8HasNothing();
        promise8StartBehindNow();
        promise8DoorIsOut();
        promise8TruckAtIt();
        promise8EndBehindClosing();
        promise8StartIsNow();
        promise9NoSuchTruck();
        promise9NumberTooSmallAndTooLarge();
        promise9FirstSameAndAnother();
        promise9AnotherCountsAsNotTold();
        promise9States();
        promise9RefusedIsNotTold();
        promise10NoSuchTruck();
        promise10PiecesTooSmallAndTooLarge();
        promise10SameOrNot();
        promise10States();
        promise10RefusedIsNotTold();
        promise11NoSuchTruck();
        promise11States();
        promise11SealFirst();
        promise11LoadThen();
        promise11TimeLast();
        promise11SealOfAWaitingTruck();
        promise11DoorThatIsOut();
        promise11BehindTheClosing();
        promise12NoSuchTruck();
        promise12ArrivalTooSmallAndTooLarge();
        promise12StartBeforeThat();
        promise12NothingPlanned();
        promise12EarlierAndTheSame();
        promise12States();
        promise13NoSuchTruck();
        promise13States();
        promise13ThePlanGoes();
        promise14NoSuchDoor();
        promise14ItIsSo();
        promise14LostPlans();
        promise14TruckAtItStays();
        promise14NotOutAnyMore();
        CHECK.finish();
    }

    /** Now is 10; trucks 0 to 4 are gone, at door 0, cancelled, planned for door 1 at 50, and without a plan. */
    private static DockBook allStates() {
        DockBook book = Books.of(Books.rows(Books.row(1, 0, 100), Books.row(2, 0, 100)),
                Books.rows(Books.row(0, 0, 10, 1), Books.row(0, 0, 20, 1), Books.row(0, 0, 30, 1),
                        Books.row(1, 50, 10, 1), Books.row(2, 0, 10, 1)));
        book.assign(5);
        book.call(GONE);
        book.pass(10);
        Books.clearAndDepart(book, GONE);
        book.call(AT_DOOR);
        book.cancel(CANCELLED);
        return book;
    }

    private static DockBook oneTruckPlanned(int from, int to, int arrival, int need) {
        DockBook book = Books.of(Books.rows(Books.row(1, from, to)), Books.rows(Books.row(0, arrival, need, 1)));
        book.assign(5);
        return book;
    }

    private static DockBook oneTruckAtDoor() {
        DockBook book = oneTruckPlanned(0, 100, 0, 10);
        book.call(0);
        return book;
    }

    private static void promise8NoSuchTruck() {
        CHECK.refused("none at all", NONE_SUCH, () -> new DockBook().call(0));
        for (int truck : NO_TRUCKS) {
            CHECK.refused("call(" + truck + ")", NONE_SUCH, () -> allStates().call(truck));
        }
    }

    private static void promise8NotWaiting() {
        CHECK.refused("gone", STATE, () -> allStates().call(GONE));
        CHECK.refused("at a door", STATE, () -> allStates().call(AT_DOOR));
        CHECK.refused("cancelled", STATE, () -> allStates().call(CANCELLED));
    }

    private static void promise8HasNothing() {
        CHECK.refused("never planned", STATE,
                () -> Books.of(Books.rows(Books.row(1, 0, 9)), Books.rows(Books.row(0, 0, 1, 1))).call(0));
        CHECK.refused("no door takes it", STATE, () -> allStates().call(UNPLANNED));
        DockBook late = oneTruckPlanned(0, 100, 0, 10);
        late.late(0, 5);
        late.pass(50);
        CHECK.refused("its plan went with its arrival", STATE, () -> late.call(0));
    }

    private static void promise8StartBehindNow() {
        DockBook book = oneTruckPlanned(0, 100, 30, 10);
        CHECK.refused("long before", STATE, () -> book.call(0));
        book.pass(29);
        CHECK.refused("a minute before", STATE, () -> book.call(0));
        book.pass(30);
        CHECK.quiet("at its start", () -> book.call(0));
        DockBook opening = oneTruckPlanned(30, 100, 0, 10);
        opening.pass(29);
        CHECK.refused("a minute before the opening", STATE, () -> opening.call(0));
        DockBook earlier = oneTruckPlanned(0, 100, 30, 10);
        earlier.late(0, 0);
        CHECK.refused("it comes earlier, its start stays", STATE, () -> earlier.call(0));
    }

    private static void promise8DoorIsOut() {
        DockBook book = oneTruckPlanned(0, 100, 0, 10);
        book.out(0, true);
        CHECK.refused("the door is out", STATE, () -> book.call(0));
        book.out(0, false);
        CHECK.refused("not planned anew yet", STATE, () -> book.call(0));
        book.assign(5);
        CHECK.quiet("planned anew", () -> book.call(0));
    }

    private static void promise8TruckAtIt() {
        DockBook book = Books.of(Books.rows(Books.row(1, 0, 100)),
                Books.rows(Books.row(0, 0, 10, 1), Books.row(0, 0, 20, 1)));
        book.assign(5);
        book.call(0);
        book.pass(10);
        CHECK.refused("its end has come, but it is at it", STATE, () -> book.call(1));
        Books.clearAndDepart(book, 0);
        CHECK.quiet("it is gone", () -> book.call(1));
        DockBook two = Books.of(Books.rows(Books.row(1, 0, 100), Books.row(2, 0, 100)),
                Books.rows(Books.row(0, 0, 10, 1), Books.row(1, 0, 20, 1)));
        two.assign(5);
        two.call(0);
        CHECK.quiet("a truck at another door", () -> two.call(1));
    }

    private static void promise8EndBehindClosing() {
        DockBook edge = oneTruckPlanned(0, 30, 0, 10);
        edge.pass(20);
        CHECK.quiet("its end is the closing", () -> edge.call(0));
        DockBook behind = oneTruckPlanned(0, 30, 0, 10);
        behind.pass(21);
        CHECK.refused("its end is a minute behind it", STATE, () -> behind.call(0));
        CHECK.same("it keeps its plan", Books.plan(behind, 1), "0@0");
        DockBook last = oneTruckPlanned(0, 2000, 0, 300);
        last.pass(2000);
        CHECK.refused("at the last time", STATE, () -> last.call(0));
    }

    private static void promise8StartIsNow() {
        DockBook book = oneTruckPlanned(0, 100, 0, 10);
        book.pass(7);
        book.call(0);
        CHECK.same("its start", book.told(0, 2), 7);
        CHECK.same("its door", book.told(0, 1), 0);
        CHECK.same("its state", book.told(0, 0), 1);
        CHECK.same("the door's truck", book.known(0, 0), 0);
        CHECK.same("none planned for it", book.known(0, 2), 0);
    }

    private static void promise9NoSuchTruck() {
        CHECK.refused("none at all", NONE_SUCH, () -> new DockBook().seal(0, 0));
        for (int truck : NO_TRUCKS) {
            CHECK.refused("seal(" + truck + ", 0)", NONE_SUCH, () -> allStates().seal(truck, 0));
            CHECK.refused("seal(" + truck + ", -1)", NONE_SUCH, () -> allStates().seal(truck, -1));
        }
    }

    private static void promise9NumberTooSmallAndTooLarge() {
        for (int number : new int[] {MIN, -1, 10000, MAX}) {
            for (int truck = GONE; truck <= UNPLANNED; truck++) {
                int t = truck;
                CHECK.refused("seal(" + t + ", " + number + ")", RANGE, () -> allStates().seal(t, number));
            }
        }
        CHECK.same("the least", allStates().seal(PLANNED, 0), 0);
        CHECK.same("the greatest", allStates().seal(PLANNED, 9999), 0);
    }

    private static void promise9FirstSameAndAnother() {
        for (int number : new int[] {0, 1, 9999}) {
            DockBook book = allStates();
            CHECK.same("first " + number, book.seal(AT_DOOR, number), 0);
            CHECK.same("same " + number, book.seal(AT_DOOR, number), 1);
            CHECK.same("same again " + number, book.seal(AT_DOOR, number), 1);
            CHECK.same("another than " + number, book.seal(AT_DOOR, 5000), 2);
        }
    }

    private static void promise9AnotherCountsAsNotTold() {
        DockBook book = allStates();
        int[][] tellings = {{0, 0}, {1, 2}, {1, 0}, {0, 2}, {1, 0}, {1, 1}, {0, 2}, {0, 0}, {0, 1}};
        for (int[] t : tellings) {
            CHECK.same("seal " + t[0], book.seal(UNPLANNED, t[0]), t[1]);
        }
    }

    private static void promise9States() {
        CHECK.refused("gone", STATE, () -> allStates().seal(GONE, 1));
        CHECK.refused("cancelled", STATE, () -> allStates().seal(CANCELLED, 1));
        CHECK.same("at a door", allStates().seal(AT_DOOR, 1), 0);
        CHECK.same("waiting with a plan", allStates().seal(PLANNED, 1), 0);
        CHECK.same("waiting with nothing", allStates().seal(UNPLANNED, 1), 0);
    }

    private static void promise9RefusedIsNotTold() {
        DockBook book = allStates();
        CHECK.refused("seal 10000", RANGE, () -> book.seal(PLANNED, 10000));
        CHECK.same("still the first time", book.seal(PLANNED, 3), 0);
        CHECK.refused("seal -1", RANGE, () -> book.seal(PLANNED, -1));
        CHECK.same("still the same", book.seal(PLANNED, 3), 1);
    }

    private static void promise10NoSuchTruck() {
        CHECK.refused("none at all", NONE_SUCH, () -> new DockBook().load(0, 0, 0));
        for (int truck : NO_TRUCKS) {
            CHECK.refused("load(" + truck + ", 0, 0)", NONE_SUCH, () -> allStates().load(truck, 0, 0));
            CHECK.refused("load(" + truck + ", -1, 10001)", NONE_SUCH, () -> allStates().load(truck, -1, 10001));
        }
    }

    private static void promise10PiecesTooSmallAndTooLarge() {
        for (int wrong : new int[] {MIN, -1, 10001, MAX}) {
            for (int truck = GONE; truck <= UNPLANNED; truck++) {
                int t = truck;
                CHECK.refused("load(" + t + ", " + wrong + ", 0)", RANGE, () -> allStates().load(t, wrong, 0));
                CHECK.refused("load(" + t + ", 0, " + wrong + ")", RANGE, () -> allStates().load(t, 0, wrong));
                CHECK.refused("load(" + t + ", both " + wrong + ")", RANGE, () -> allStates().load(t, wrong, wrong));
            }
        }
    }

    private static void promise10SameOrNot() {
        CHECK.same("no pieces", allStates().load(AT_DOOR, 0, 0), true);
        CHECK.same("the most pieces", allStates().load(AT_DOOR, 10000, 10000), true);
        CHECK.same("all too few", allStates().load(AT_DOOR, 10000, 0), false);
        CHECK.same("all too many", allStates().load(AT_DOOR, 0, 10000), false);
        CHECK.same("one too few", allStates().load(AT_DOOR, 10000, 9999), false);
        CHECK.same("one too many", allStates().load(AT_DOOR, 0, 1), false);
    }

    private static void promise10States() {
        for (int truck : new int[] {GONE, CANCELLED, PLANNED, UNPLANNED}) {
            CHECK.refused("truck " + truck, STATE, () -> allStates().load(truck, 1, 1));
        }
        CHECK.same("at a door", allStates().load(AT_DOOR, 1, 1), true);
    }

    private static void promise10RefusedIsNotTold() {
        DockBook book = oneTruckPlanned(0, 100, 0, 10);
        book.seal(0, 1);
        book.seal(0, 1);
        CHECK.refused("load of a waiting truck", STATE, () -> book.load(0, 1, 1));
        book.call(0);
        CHECK.same("not told yet", book.depart(0), 3);
        CHECK.refused("wrong pieces", RANGE, () -> book.load(0, 10001, 10001));
        CHECK.same("still not told", book.depart(0), 3);
        book.load(0, 1, 1);
        CHECK.refused("wrong pieces again", RANGE, () -> book.load(0, 1, -1));
        CHECK.same("told, but too early", book.depart(0), 4);
    }

    private static void promise11NoSuchTruck() {
        CHECK.refused("none at all", NONE_SUCH, () -> new DockBook().depart(0));
        for (int truck : NO_TRUCKS) {
            CHECK.refused("depart(" + truck + ")", NONE_SUCH, () -> allStates().depart(truck));
        }
    }

    private static void promise11States() {
        for (int truck : new int[] {GONE, CANCELLED, PLANNED, UNPLANNED}) {
            CHECK.refused("truck " + truck, STATE, () -> allStates().depart(truck));
        }
        CHECK.same("at a door", allStates().depart(AT_DOOR), 2);
    }

    private static void promise11SealFirst() {
        DockBook book = oneTruckAtDoor();
        CHECK.same("all three bar it", book.depart(0), 2);
        book.seal(0, 0);
        CHECK.same("told once", book.depart(0), 2);
        book.seal(0, 1);
        CHECK.same("told twice, not alike", book.depart(0), 2);
        book.load(0, 0, 0);
        book.pass(10);
        CHECK.same("the seal alone bars it", book.depart(0), 2);
        book.seal(0, 0);
        CHECK.same("told once anew", book.depart(0), 2);
        book.seal(0, 0);
        book.seal(0, 7);
        CHECK.same("told alike, then another", book.depart(0), 2);
        book.seal(0, 7);
        book.seal(0, 7);
        book.seal(0, 7);
        CHECK.same("told three times alike", book.depart(0), 1);
    }

    private static void promise11LoadThen() {
        DockBook book = oneTruckAtDoor();
        book.seal(0, 1);
        book.seal(0, 1);
        CHECK.same("load and time bar it", book.depart(0), 3);
        book.pass(10);
        CHECK.same("not told", book.depart(0), 3);
        book.load(0, 1, 0);
        CHECK.same("not the same", book.depart(0), 3);
        book.load(0, 1, 1);
        book.load(0, 0, 1);
        CHECK.same("the last one counts", book.depart(0), 3);
        book.load(0, 0, 0);
        CHECK.same("no pieces are the same", book.depart(0), 1);
    }

    private static void promise11TimeLast() {
        DockBook book = oneTruckPlanned(0, 100, 0, 10);
        book.pass(5);
        book.call(0);
        CHECK.same("at once", Books.clearAndDepart(book, 0), 4);
        book.pass(14);
        CHECK.same("a minute before", book.depart(0), 4);
        CHECK.same("it is still at the door", book.known(0, 0), 0);
        book.pass(15);
        CHECK.same("at its end", book.depart(0), 1);
        CHECK.same("minutes", book.told(0, 7), 15);
        CHECK.refused("twice", STATE, () -> book.depart(0));
    }

    private static void promise11SealOfAWaitingTruck() {
        DockBook book = oneTruckPlanned(0, 100, 0, 10);
        book.seal(0, 1);
        book.call(0);
        CHECK.same("told alike, before and at the door", book.seal(0, 1), 1);
        CHECK.same("only the load is left", book.depart(0), 3);
    }

    private static void promise11DoorThatIsOut() {
        DockBook book = oneTruckAtDoor();
        book.out(0, true);
        book.pass(10);
        CHECK.same("it departs", Books.clearAndDepart(book, 0), 1);
        CHECK.same("departed from the door", book.known(0, 4), 1);
        CHECK.same("the door is still out", book.known(0, 1), 1);
    }

    private static void promise11BehindTheClosing() {
        DockBook book = oneTruckAtDoor();
        book.pass(2000);
        CHECK.same("it departs", Books.clearAndDepart(book, 0), 1);
        CHECK.same("minutes", book.told(0, 7), 2000);
    }

    private static void promise12NoSuchTruck() {
        CHECK.refused("none at all", NONE_SUCH, () -> new DockBook().late(0, 0));
        for (int truck : NO_TRUCKS) {
            CHECK.refused("late(" + truck + ", 0)", NONE_SUCH, () -> allStates().late(truck, 0));
            CHECK.refused("late(" + truck + ", 2001)", NONE_SUCH, () -> allStates().late(truck, 2001));
        }
    }

    private static void promise12ArrivalTooSmallAndTooLarge() {
        for (int arrival : new int[] {MIN, -1, 2001, MAX}) {
            for (int truck = GONE; truck <= UNPLANNED; truck++) {
                int t = truck;
                CHECK.refused("late(" + t + ", " + arrival + ")", RANGE, () -> allStates().late(t, arrival));
            }
        }
        for (int arrival : new int[] {0, 2000}) {
            DockBook book = allStates();
            CHECK.same("late to " + arrival, book.late(PLANNED, arrival), true);
            CHECK.same("its arrival", book.told(PLANNED, 3), arrival);
            CHECK.same("its door", book.told(PLANNED, 1), arrival == 0 ? 1 : -1);
        }
    }

    private static void promise12StartBeforeThat() {
        DockBook book = oneTruckPlanned(20, 100, 0, 10);
        CHECK.same("a minute before its start", book.late(0, 19), true);
        CHECK.same("plan", Books.plan(book, 1), "0@20");
        CHECK.same("at its start", book.late(0, 20), true);
        CHECK.same("plan then", Books.plan(book, 1), "0@20");
        CHECK.same("a minute behind its start", book.late(0, 21), true);
        CHECK.same("no plan", Books.plan(book, 1), "-");
        CHECK.same("none planned for the door", book.known(0, 2), 0);
        CHECK.same("cost", book.count(7), 5000);
    }

    private static void promise12NothingPlanned() {
        DockBook book = allStates();
        CHECK.same("no door takes it", book.late(UNPLANNED, 0), false);
        CHECK.same("late all the same", book.late(UNPLANNED, 77), false);
        CHECK.same("its arrival", book.told(UNPLANNED, 3), 77);
        book.late(PLANNED, 51);
        CHECK.same("its plan is lost already", book.late(PLANNED, 50), false);
        CHECK.same("and does not come back", book.told(PLANNED, 1), -1);
    }

    private static void promise12EarlierAndTheSame() {
        DockBook book = allStates();
        CHECK.same("the same time", book.late(PLANNED, 50), true);
        CHECK.same("its start", book.told(PLANNED, 2), 50);
        CHECK.same("a minute earlier", book.late(PLANNED, 49), true);
        CHECK.same("its start stays", book.told(PLANNED, 2), 50);
        CHECK.same("before now", book.late(PLANNED, 9), true);
        CHECK.same("its cost", book.count(7), 5000 + 41);
    }

    private static void promise12States() {
        for (int truck : new int[] {GONE, AT_DOOR, CANCELLED}) {
            CHECK.refused("truck " + truck, STATE, () -> allStates().late(truck, 60));
        }
    }

    private static void promise13NoSuchTruck() {
        CHECK.refused("none at all", NONE_SUCH, () -> new DockBook().cancel(0));
        for (int truck : NO_TRUCKS) {
            CHECK.refused("cancel(" + truck + ")", NONE_SUCH, () -> allStates().cancel(truck));
        }
    }

    private static void promise13States() {
        for (int truck : new int[] {GONE, AT_DOOR, CANCELLED}) {
            CHECK.refused("truck " + truck, STATE, () -> allStates().cancel(truck));
        }
        CHECK.quiet("waiting with a plan", () -> allStates().cancel(PLANNED));
        CHECK.quiet("waiting with nothing", () -> allStates().cancel(UNPLANNED));
    }

    private static void promise13ThePlanGoes() {
        DockBook book = allStates();
        book.cancel(PLANNED);
        CHECK.same("its state", book.told(PLANNED, 0), 3);
        CHECK.same("planned for its door", book.known(1, 2), 0);
        CHECK.refused("the door's first", NONE_SUCH, () -> book.order(1, 0));
        CHECK.same("nothing lost when the door goes out", book.out(1, true), 0);
        CHECK.same("cost of the other", book.count(7), 5000);
        CHECK.same("cancelled", book.count(5), 2);
    }

    private static void promise14NoSuchDoor() {
        CHECK.refused("none at all", NONE_SUCH, () -> new DockBook().out(0, true));
        for (int door : new int[] {MIN, -1, 2, 3, 4, MAX}) {
            CHECK.refused("out(" + door + ", true)", NONE_SUCH, () -> allStates().out(door, true));
            CHECK.refused("out(" + door + ", false)", NONE_SUCH, () -> allStates().out(door, false));
        }
    }

    private static void promise14ItIsSo() {
        DockBook book = allStates();
        CHECK.refused("not out at first", STATE, () -> book.out(1, false));
        CHECK.same("planned for it still", book.known(1, 2), 1);
        book.out(1, true);
        CHECK.refused("out twice", STATE, () -> book.out(1, true));
        CHECK.same("out", book.known(1, 1), 1);
        book.out(1, false);
        CHECK.refused("back twice", STATE, () -> book.out(1, false));
        CHECK.same("not out", book.known(1, 1), 0);
    }

    private static void promise14LostPlans() {
        CHECK.same("none planned", allStates().out(0, true), 0);
        CHECK.same("one planned", allStates().out(1, true), 1);
        DockBook book = Books.of(Books.rows(Books.row(1, 0, 2000), Books.row(2, 0, 2000)), Books.rows());
        for (int i = 0; i < 12; i++) {
            book.truck(i == 11 ? 1 : 0, 0, 10, 1);
        }
        book.assign(0);
        CHECK.same("eleven planned", book.out(0, true), 11);
        CHECK.same("cost", book.count(7), 55000);
        CHECK.same("the other door's plan stays", book.told(11, 1), 1);
        CHECK.same("the other door is not out", book.known(1, 1), 0);
    }

    private static void promise14TruckAtItStays() {
        DockBook book = allStates();
        CHECK.same("it had a start, but no plan to lose", book.out(0, true), 0);
        CHECK.same("its state", book.told(AT_DOOR, 0), 1);
        CHECK.same("its door", book.told(AT_DOOR, 1), 0);
        CHECK.same("its start", book.told(AT_DOOR, 2), 10);
        CHECK.same("the door's truck", book.known(0, 0), AT_DOOR);
        CHECK.same("a gone truck's door", book.told(GONE, 1), 0);
    }

    private static void promise14NotOutAnyMore() {
        DockBook book = allStates();
        book.out(1, true);
        CHECK.same("nothing to lose", book.out(1, false), 0);
        CHECK.same("the plan does not come back", book.told(PLANNED, 1), -1);
        book.assign(5);
        CHECK.same("but a new planning gives it", book.told(PLANNED, 1), 1);
    }
}
