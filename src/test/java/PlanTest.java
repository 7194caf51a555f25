import java.util.NoSuchElementException;

/** Promises 4 to 7 and 16: plans, what is said of them, and the order at doors. */
public final class PlanTest {
    private static final Check CHECK = new Check("PlanTest");

    public static void main(String[] args) {
        promise4Refusals();
        promise4LeastCost();
        promise4TiesByDoors();
        promise4TiesByStarts();
        promise4AllRoomInUse();
        promise4TimesOfDoors();
        promise4ByRule();
        promise4RuleTakesLeastStart();
        promise4BusyDoor();
        promise5Exact();
        promise6Moved();
        promise7Bound();
        promise16Order();
        CHECK.finish();
    }

    private static void promise4Refusals() {
        DockBook book = new DockBook();
        book.door(1, 0, 100);
        book.truck(0, 0, 10, 1);
        for (int most : new int[] {-1, 6, Integer.MIN_VALUE, Integer.MAX_VALUE}) {
            CHECK.refused("assign(" + most + ")", IllegalArgumentException.class, () -> book.assign(most));
        }
        CHECK.same("door after refusals", book.told(0, 1), -1);
        CHECK.same("exact() after refusals", book.exact(), false);
        CHECK.same("no trucks", new DockBook().assign(5), 0);
    }

    private static void promise4LeastCost() {
        DockBook book = new DockBook();
        book.door(1, 0, 100);
        book.truck(0, 0, 60, 1);
        book.truck(0, 5, 10, 9);
        book.truck(0, 6, 10, 9);
        CHECK.same("assign(3), the short ones first", book.assign(3), 0 + 9 + 25);
        checkPlan(book, 0, 25, 0, 5, 0, 15);
        CHECK.same("assign(2), by rank", book.assign(2), 55 + 64);
        checkPlan(book, 0, 0, 0, 60, 0, 70);
        // Planning another kind of truck costs less than leaving it out, however long it waits.
        DockBook late = new DockBook();
        late.door(2, 1700, 2000);
        late.truck(1, 0, 300, 1);
        CHECK.same("the longest wait", late.assign(1), 1700);
        late.truck(1, 0, 1, 1);
        CHECK.same("one has nothing", late.assign(2), 6700);
        checkPlan(late, 0, 1700, -1, -1);
    }

    private static void promise4TiesByDoors() {
        DockBook book = new DockBook();
        for (int i = 0; i < 4; i++) {
            book.door(1, 0, 100);
        }
        for (int i = 0; i < 4; i++) {
            book.truck(0, 0, 10, 9 - i);
        }
        CHECK.same("a door each", book.assign(4), 0);
        checkPlan(book, 0, 0, 1, 0, 2, 0, 3, 0);
        CHECK.same("a door each by rule", book.assign(3), 0);
        checkPlan(book, 3, 0, 2, 0, 1, 0, 0, 0);
        DockBook narrow = new DockBook();
        narrow.door(1, 0, 10);
        narrow.truck(0, 0, 10, 9);
        narrow.truck(0, 0, 10, 1);
        CHECK.same("only one has room", narrow.assign(2), 5000);
        checkPlan(narrow, 0, 0, -1, -1);
        CHECK.same("only one has room by rule", narrow.assign(1), 5000);
        checkPlan(narrow, -1, -1, 0, 0);
    }

    private static void promise4TiesByStarts() {
        DockBook book = new DockBook();
        book.door(1, 0, 100);
        for (int i = 0; i < 5; i++) {
            book.truck(0, 0, 20, 9 - i);
        }
        CHECK.same("equal trucks", book.assign(5), 200);
        checkPlan(book, 0, 0, 0, 20, 0, 40, 0, 60, 0, 80);
        // Trucks 1 and 2 fill the same span in either order at the same cost.
        DockBook other = new DockBook();
        other.door(1, 0, 100);
        other.truck(0, 50, 10, 1);
        other.truck(0, 10, 10, 1);
        other.truck(0, 10, 10, 1);
        CHECK.same("two equal trucks", other.assign(3), 10);
        checkPlan(other, 0, 50, 0, 10, 0, 20);
        // Truck 1, 2, 0 in this order cost 4 as well, but truck 0 starts at 4 then.
        DockBook three = new DockBook();
        three.door(1, 0, 100);
        three.truck(0, 2, 2, 1);
        three.truck(0, 0, 3, 1);
        three.truck(0, 1, 1, 1);
        CHECK.same("three trucks", three.assign(3), 4);
        checkPlan(three, 0, 2, 0, 4, 0, 1);
    }

    private static void promise4AllRoomInUse() {
        DockBook book = new DockBook();
        for (int i = 0; i < 4; i++) {
            book.door(1 << i, 0, 30);
        }
        for (int i = 0; i < 12; i++) {
            book.truck(i % 4, 0, 10, 9 - i / 4);
        }
        CHECK.same("three trucks at each door", book.assign(5), 4 * (10 + 20));
        for (int i = 0; i < 12; i++) {
            CHECK.same("door of truck " + i, book.told(i, 1), i % 4);
            CHECK.same("start of truck " + i, book.told(i, 2), 20 - i / 4 * 10);
            CHECK.same("truck at that place", book.order(i % 4, 2 - i / 4), i);
        }
        CHECK.same("moved", book.moved(), 12);
        CHECK.same("bound", book.bound(), 0);
        CHECK.same("planned", book.known(3, 2), 3);
        CHECK.same("out", book.out(3, true), 3);
        CHECK.same("cost then", book.count(7), 3 * (10 + 20) + 3 * 5000);
    }

    private static void promise4TimesOfDoors() {
        DockBook book = new DockBook();
        book.door(1, 30, 60);
        book.truck(0, 10, 30, 1);
        CHECK.same("from the opening to the closing", book.assign(1), 20);
        checkPlan(book, 0, 30);
        book.pass(31);
        CHECK.same("the end is behind the closing", book.assign(1), 5000);
        checkPlan(book, -1, -1);
        CHECK.same("the same by rule", book.assign(0), 5000);
        DockBook now = new DockBook();
        now.door(1, 0, 100);
        now.truck(0, 10, 30, 1);
        now.truck(1, 10, 30, 1);
        now.pass(40);
        CHECK.same("not before now; kinds", now.assign(5), 5030);
        checkPlan(now, 0, 40, -1, -1);
        now.out(0, true);
        CHECK.same("the door is out", now.assign(5), 10000);
        CHECK.same("the door is out, by rule", now.assign(0), 10000);
        now.out(0, false);
        CHECK.same("it is not out", now.assign(5), 5030);
    }

    private static void promise4ByRule() {
        DockBook book = new DockBook();
        book.door(1, 0, 2000);
        book.truck(0, 7, 10, 2);
        book.truck(0, 7, 10, 2);
        book.truck(0, 6, 10, 2);
        book.truck(0, 90, 10, 1);
        book.truck(0, 0, 10, 3);
        CHECK.same("rank, arrival, number", book.assign(0), 0 + 94 + 103 + 113 + 130);
        checkPlan(book, 0, 110, 0, 120, 0, 100, 0, 90, 0, 130);
    }

    private static void promise4RuleTakesLeastStart() {
        DockBook book = new DockBook();
        book.door(1, 20, 2000);
        book.door(3, 10, 2000);
        book.door(1, 10, 15);
        book.truck(0, 0, 5, 1);
        book.truck(0, 0, 5, 2);
        book.truck(0, 0, 5, 3);
        book.truck(0, 0, 5, 4);
        book.truck(1, 0, 5, 5);
        book.truck(2, 0, 5, 5);
        CHECK.same("least start, lowest door", book.assign(5), 10 + 10 + 15 + 20 + 20 + 5000);
        checkPlan(book, 1, 10, 2, 10, 1, 15, 0, 20, 1, 20, -1, -1);
    }

    private static void promise4BusyDoor() {
        for (int most : new int[] {0, 5}) {
            DockBook book = new DockBook();
            book.door(1, 0, 100);
            book.truck(0, 0, 40, 1);
            book.truck(0, 0, 10, 1);
            book.assign(most);
            int first = book.order(0, 0);
            int second = 1 - first;
            book.call(first);
            int free = book.told(first, 4);
            book.assign(most);
            CHECK.same("behind the truck at the door", book.told(second, 2), free);
            book.pass(60);
            book.assign(most);
            CHECK.same("a truck that stays too long frees its door now", book.told(second, 2), 60);
            CHECK.same("the truck at the door is not planned", book.told(first, 2), 0);
        }
    }

    private static void promise5Exact() {
        DockBook book = new DockBook();
        CHECK.same("before", book.exact(), false);
        book.assign(0);
        CHECK.same("none for none", book.exact(), true);
        book.truck(0, 0, 1, 1);
        CHECK.same("a truck more changes nothing", book.exact(), true);
        book.assign(0);
        CHECK.same("one for none", book.exact(), false);
        for (int i = 1; i < 5; i++) {
            book.truck(0, 0, 1, 1);
        }
        book.assign(4);
        CHECK.same("five for four", book.exact(), false);
        book.assign(5);
        CHECK.same("five for five", book.exact(), true);
        book.truck(0, 0, 1, 1);
        book.assign(5);
        CHECK.same("six for five", book.exact(), false);
        book.cancel(2);
        book.assign(5);
        CHECK.same("six of which one is cancelled", book.exact(), true);
    }

    private static void promise6Moved() {
        DockBook book = new DockBook();
        CHECK.same("before", book.moved(), 0);
        book.door(1, 0, 100);
        book.door(1, 0, 100);
        book.truck(0, 0, 10, 1);
        book.truck(0, 0, 10, 2);
        book.truck(1, 0, 10, 2);
        book.assign(5);
        CHECK.same("from nothing", book.moved(), 2);
        book.assign(5);
        CHECK.same("the same again", book.moved(), 0);
        book.out(0, true);
        CHECK.same("not a planning", book.moved(), 0);
        book.assign(5);
        CHECK.same("from nothing to door 1, and another start", book.moved(), 2);
        book.out(1, true);
        book.assign(5);
        CHECK.same("nothing before and behind", book.moved(), 0);
        book.out(0, false);
        book.assign(5);
        CHECK.same("from nothing again", book.moved(), 2);
        book.out(1, false);
        book.assign(5);
        CHECK.same("another door and another start", book.moved(), 1);
        book.pass(95);
        book.assign(5);
        CHECK.same("to nothing", book.moved(), 2);
        CHECK.refused("assign(6)", IllegalArgumentException.class, () -> book.assign(6));
        CHECK.same("after a refusal", book.moved(), 2);
        otherDoorSameStart();
    }

    private static void otherDoorSameStart() {
        DockBook book = new DockBook();
        book.door(1, 0, 100);
        book.door(1, 0, 100);
        book.truck(0, 0, 10, 1);
        book.out(0, true);
        book.assign(1);
        book.out(0, false);
        book.assign(1);
        CHECK.same("another door, the same start", book.moved(), 1);
        checkPlan(book, 0, 0);
    }

    private static void promise7Bound() {
        DockBook book = new DockBook();
        book.truck(0, 5, 20, 1);
        CHECK.same("no doors", book.bound(), 5000);
        book.door(1, 30, 60);
        book.truck(0, 5, 20, 1);
        book.truck(0, 0, 31, 1);
        book.truck(1, 0, 1, 1);
        CHECK.same("each alone", book.bound(), 25 + 25 + 5000 + 5000);
        book.door(1, 20, 45);
        CHECK.same("the better door", book.bound(), 15 + 15 + 5000 + 5000);
        book.out(1, true);
        CHECK.same("it is out", book.bound(), 25 + 25 + 5000 + 5000);
        book.out(1, false);
        book.cancel(2);
        book.cancel(3);
        CHECK.same("only waiting ones", book.bound(), 15 + 15);
        book.assign(5);
        CHECK.same("plans change nothing", book.bound(), 15 + 15);
        book.pass(22);
        book.call(1);
        CHECK.same("door 1 is busy until 42", book.bound(), 25);
        book.pass(31);
        CHECK.same("now", book.bound(), 26);
        book.pass(41);
        CHECK.same("too late for both", book.bound(), 5000);
    }

    private static void promise16Order() {
        DockBook book = new DockBook();
        CHECK.refused("no door", NoSuchElementException.class, () -> book.order(0, 0));
        book.door(1, 0, 100);
        book.door(2, 0, 100);
        book.truck(0, 0, 30, 1);
        book.truck(0, 0, 10, 1);
        book.truck(1, 0, 10, 1);
        book.truck(0, 0, 20, 1);
        CHECK.refused("nothing planned", NoSuchElementException.class, () -> book.order(0, 0));
        CHECK.refused("no door for trucks without one", NoSuchElementException.class, () -> book.order(-1, 0));
        book.assign(4);
        CHECK.same("order(0, 0)", book.order(0, 0), 1);
        CHECK.same("order(0, 1)", book.order(0, 1), 3);
        CHECK.same("order(0, 2)", book.order(0, 2), 0);
        CHECK.same("order(1, 0)", book.order(1, 0), 2);
        CHECK.refused("order(0, 3)", NoSuchElementException.class, () -> book.order(0, 3));
        CHECK.refused("order(1, 1)", NoSuchElementException.class, () -> book.order(1, 1));
        CHECK.refused("order(0, -1)", NoSuchElementException.class, () -> book.order(0, -1));
        CHECK.refused("order(2, 0)", NoSuchElementException.class, () -> book.order(2, 0));
        CHECK.refused("order(-1, 0)", NoSuchElementException.class, () -> book.order(-1, 0));
        CHECK.refused("order(MAX, MAX)", NoSuchElementException.class,
                () -> book.order(Integer.MAX_VALUE, Integer.MAX_VALUE));
        book.call(1);
        CHECK.same("a called truck does not wait", book.order(0, 0), 3);
        book.cancel(3);
        CHECK.same("nor a cancelled one", book.order(0, 0), 0);
        CHECK.refused("order(0, 1) then", NoSuchElementException.class, () -> book.order(0, 1));
    }

    private static void checkPlan(DockBook book, int... doorsAndStarts) {
        for (int i = 0; i < doorsAndStarts.length / 2; i++) {
            CHECK.same("door of truck " + i, book.told(i, 1), doorsAndStarts[2 * i]);
            CHECK.same("start of truck " + i, book.told(i, 2), doorsAndStarts[2 * i + 1]);
        }
    }
}
