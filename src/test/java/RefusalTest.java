import java.util.NoSuchElementException;
import java.util.function.Consumer;
import java.util.function.Supplier;

/**
 * REFUSALS of the document's 'Terms': which exception is the first that holds, for every method that
 * refuses, and that a refused call (or a departure that is barred) leaves all as it was.
 */
public final class RefusalTest {
    private static final Check CHECK = new Check("RefusalTest");
    private static final Class<IllegalArgumentException> RANGE = IllegalArgumentException.class;
    private static final Class<IllegalStateException> STATE = IllegalStateException.class;
    private static final Class<NoSuchElementException> NONE_SUCH = NoSuchElementException.class;
    private static final Class<UnsupportedOperationException> NO_ROOM = UnsupportedOperationException.class;
    private static final int MIN = Integer.MIN_VALUE;
    private static final int MAX = Integer.MAX_VALUE;

    public static void main(String[] args) {
        registering();
        registeringWithoutRoom();
        planningAndPassing();
        calling();
        sealing();
        loading();
        departing();
        comingLate();
        cancelling();
        goingOut();
        asking();
        departuresThatAreBarred();
        CHECK.finish();
    }

    /**
     * Now is 10. Doors: 0 busy, 1 not, 2 out. Trucks: 0 gone, 1 at door 0, 2 cancelled, 3 planned for door 1 at 50,
     * 4 without a plan, 5 planned for door 0 behind truck 1, 6 planned for door 1 at 10.
     */
    private static DockBook busy() {
        DockBook book = Books.of(Books.rows(Books.row(1, 0, 100), Books.row(2, 0, 500), Books.row(4, 0, 500)),
                Books.rows(Books.row(0, 0, 10, 1), Books.row(0, 0, 20, 1), Books.row(0, 0, 30, 1),
                        Books.row(1, 50, 10, 1), Books.row(2, 0, 10, 1)));
        book.cancel(2);
        book.out(2, true);
        book.assign(5);
        book.call(0);
        book.pass(10);
        Books.clearAndDepart(book, 0);
        book.call(1);
        book.seal(1, 5);
        book.load(1, 3, 3);
        book.truck(0, 10, 5, 1);
        book.truck(1, 10, 5, 1);
        book.assign(5);
        return book;
    }

    private static DockBook full() {
        DockBook book = Books.of(Books.rows(Books.row(1, 0, 100), Books.row(2, 0, 100), Books.row(4, 0, 100),
                Books.row(8, 0, 100)), Books.rows());
        for (int i = 0; i < 12; i++) {
            book.truck(i % 4, i, 10, 1);
        }
        book.assign(5);
        return book;
    }

    private static void refused(String what, Class<? extends RuntimeException> due, Consumer<DockBook> call) {
        refused(what, due, RefusalTest::busy, call);
    }

    private static void refused(String what, Class<? extends RuntimeException> due, Supplier<DockBook> maker,
            Consumer<DockBook> call) {
        DockBook book = maker.get();
        String before = Books.all(book);
        CHECK.refused(what, due, () -> call.accept(book));
        CHECK.same("all behind " + what, Books.all(book), before);
    }

    private static void registering() {
        int[][] doors = {{0, 0, 1}, {256, 0, 1}, {1, -1, 1}, {1, 5, 5}, {1, 5, 4}, {1, 0, 2001}, {1, MAX, MIN}};
        for (int[] d : doors) {
            refused("door(" + d[0] + ", " + d[1] + ", " + d[2] + ")", RANGE, book -> book.door(d[0], d[1], d[2]));
        }
        int[][] trucks = {{-1, 0, 1, 1}, {8, 0, 1, 1}, {0, -1, 1, 1}, {0, 2001, 1, 1}, {0, 0, 0, 1}, {0, 0, 301, 1},
            {0, 0, 1, 0}, {0, 0, 1, 10}};
        for (int[] t : trucks) {
            refused("truck(" + t[0] + ", " + t[1] + ", " + t[2] + ", " + t[3] + ")", RANGE,
                    book -> book.truck(t[0], t[1], t[2], t[3]));
        }
    }

    private static void registeringWithoutRoom() {
        refused("a fifth door", NO_ROOM, RefusalTest::full, book -> book.door(255, 0, 2000));
        refused("a fifth door, wrong too", RANGE, RefusalTest::full, book -> book.door(255, 0, 2001));
        refused("a thirteenth truck", NO_ROOM, RefusalTest::full, book -> book.truck(0, 0, 1, 1));
        refused("a thirteenth truck, wrong too", RANGE, RefusalTest::full, book -> book.truck(0, 0, 1, 10));
    }

    private static void planningAndPassing() {
        for (int most : new int[] {MIN, -1, 6, MAX}) {
            refused("assign(" + most + ")", RANGE, book -> book.assign(most));
        }
        for (int time : new int[] {MIN, -1, 0, 9, 2001, MAX}) {
            refused("pass(" + time + ")", RANGE, book -> book.pass(time));
        }
    }

    private static void calling() {
        refused("call(-1)", NONE_SUCH, book -> book.call(-1));
        refused("call(7)", NONE_SUCH, book -> book.call(7));
        refused("call of a gone truck", STATE, book -> book.call(0));
        refused("call of a truck at a door", STATE, book -> book.call(1));
        refused("call of a cancelled truck", STATE, book -> book.call(2));
        refused("call before its start", STATE, book -> book.call(3));
        refused("call without a plan", STATE, book -> book.call(4));
        refused("call to a busy door", STATE, () -> at(30), book -> book.call(5));
        refused("call too late for the closing", STATE, () -> at(496), book -> book.call(6));
        CHECK.quiet("call just in time for the closing", () -> at(495).call(6));
        CHECK.quiet("call at its start", () -> busy().call(6));
    }

    private static DockBook at(int time) {
        DockBook book = busy();
        book.pass(time);
        return book;
    }

    private static void sealing() {
        refused("seal of no truck, wrong too", NONE_SUCH, book -> book.seal(7, 10000));
        refused("wrong seal of a gone truck", RANGE, book -> book.seal(0, 10000));
        refused("wrong seal of a cancelled truck", RANGE, book -> book.seal(2, -1));
        refused("wrong seal", RANGE, book -> book.seal(3, 10000));
        refused("seal of a gone truck", STATE, book -> book.seal(0, 1));
        refused("seal of a cancelled truck", STATE, book -> book.seal(2, 1));
    }

    private static void loading() {
        refused("load of no truck, wrong too", NONE_SUCH, book -> book.load(7, 10001, 0));
        refused("wrong order of a waiting truck", RANGE, book -> book.load(3, -1, 0));
        refused("wrong load of a gone truck", RANGE, book -> book.load(0, 0, 10001));
        refused("wrong load", RANGE, book -> book.load(1, 0, -1));
        for (int truck : new int[] {0, 2, 3, 4}) {
            refused("load of truck " + truck, STATE, book -> book.load(truck, 1, 1));
        }
    }

    private static void departing() {
        refused("depart(7)", NONE_SUCH, book -> book.depart(7));
        refused("depart(-1)", NONE_SUCH, book -> book.depart(-1));
        for (int truck : new int[] {0, 2, 3, 4}) {
            refused("departure of truck " + truck, STATE, book -> book.depart(truck));
        }
    }

    private static void comingLate() {
        refused("late of no truck, wrong too", NONE_SUCH, book -> book.late(7, 2001));
        refused("wrong arrival of a gone truck", RANGE, book -> book.late(0, -1));
        refused("wrong arrival of a planned truck", RANGE, book -> book.late(3, 2001));
        for (int truck : new int[] {0, 1, 2}) {
            refused("late of truck " + truck, STATE, book -> book.late(truck, 60));
        }
    }

    private static void cancelling() {
        refused("cancel(7)", NONE_SUCH, book -> book.cancel(7));
        refused("cancel(-1)", NONE_SUCH, book -> book.cancel(-1));
        for (int truck : new int[] {0, 1, 2}) {
            refused("cancel of truck " + truck, STATE, book -> book.cancel(truck));
        }
    }

    private static void goingOut() {
        refused("out(3, true)", NONE_SUCH, book -> book.out(3, true));
        refused("out(-1, false)", NONE_SUCH, book -> book.out(-1, false));
        refused("out(1, false)", STATE, book -> book.out(1, false));
        refused("out(2, true)", STATE, book -> book.out(2, true));
    }

    private static void asking() {
        refused("order(3, 0)", NONE_SUCH, book -> book.order(3, 0));
        refused("order(1, 2)", NONE_SUCH, book -> book.order(1, 2));
        refused("order(1, -1)", NONE_SUCH, book -> book.order(1, -1));
        refused("told(7, 8)", NONE_SUCH, book -> book.told(7, 8));
        refused("told(6, 8)", RANGE, book -> book.told(6, 8));
        refused("known(3, 5)", NONE_SUCH, book -> book.known(3, 5));
        refused("known(2, 5)", RANGE, book -> book.known(2, 5));
    }

    private static void departuresThatAreBarred() {
        DockBook book = busy();
        String before = Books.all(book);
        CHECK.same("seal told once", book.depart(1), 2);
        CHECK.same("all behind the seal", Books.all(book), before);
        book.seal(1, 5);
        book.load(1, 3, 2);
        CHECK.same("load not the same", book.depart(1), 3);
        CHECK.same("all behind the load", Books.all(book), before);
        book.load(1, 3, 3);
        CHECK.same("too early", book.depart(1), 4);
        CHECK.same("all behind the time", Books.all(book), before);
    }
}
