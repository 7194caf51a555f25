import java.util.NoSuchElementException;

/** Promises 8 to 14: trucks that are called, checked, depart, come late or are cancelled, and doors that are out. */
public final class DockTest {
    private static final Check CHECK = new Check("DockTest");
    private static final Class<IllegalArgumentException> RANGE = IllegalArgumentException.class;
    private static final Class<IllegalStateException> STATE = IllegalStateException.class;
    private static final Class<NoSuchElementException> NONE_SUCH = NoSuchElementException.class;

    public static void main(String[] args) {
        promise8Call();
        promise8ClosingAndOut();
        promise9Seal();
        promise10Load();
        promise11Depart();
        promise11SealAndLoadAnew();
        promise12Late();
        promise13Cancel();
        promise14Out();
        CHECK.finish();
    }

    private static DockBook oneDoorTwoTrucks() {
        DockBook book = new DockBook();
        book.door(1, 0, 100);
        book.truck(0, 0, 10, 1);
        book.truck(0, 0, 20, 2);
        return book;
    }

    private static DockBook truckAtDoor() {
        DockBook book = oneDoorTwoTrucks();
        book.assign(5);
        book.call(0);
        return book;
    }

    private static DockBook truckGone() {
        DockBook book = truckAtDoor();
        book.seal(0, 1);
        book.seal(0, 1);
        book.load(0, 1, 1);
        book.pass(10);
        book.depart(0);
        return book;
    }

    private static void promise8Call() {
        DockBook book = oneDoorTwoTrucks();
        CHECK.refused("call(-1)", NONE_SUCH, () -> book.call(-1));
        CHECK.refused("call(2)", NONE_SUCH, () -> book.call(2));
        CHECK.refused("it has nothing", STATE, () -> book.call(0));
        book.assign(5);
        CHECK.refused("its start is behind now", STATE, () -> book.call(1));
        book.pass(9);
        CHECK.refused("its start is one behind now", STATE, () -> book.call(1));
        CHECK.quiet("later than planned", () -> book.call(0));
        CHECK.same("state", book.told(0, 0), 1);
        CHECK.same("start is now", book.told(0, 2), 9);
        CHECK.same("at the door", book.known(0, 0), 0);
        CHECK.refused("it is at it", STATE, () -> book.call(0));
        book.pass(10);
        CHECK.refused("another is at it", STATE, () -> book.call(1));
        CHECK.same("state of the other", book.told(1, 0), 0);
        CHECK.refused("it is gone", STATE, () -> truckGone().call(0));
        book.cancel(1);
        CHECK.refused("it is cancelled", STATE, () -> book.call(1));
        CHECK.quiet("after a departure, at its start", () -> truckGone().call(1));
    }

    private static void promise8ClosingAndOut() {
        DockBook book = oneDoorTwoTrucks();
        book.assign(5);
        book.pass(91);
        CHECK.refused("its end would be behind the closing", STATE, () -> book.call(0));
        DockBook edge = oneDoorTwoTrucks();
        edge.assign(5);
        edge.pass(90);
        CHECK.quiet("its end is the closing", () -> edge.call(0));
        DockBook out = oneDoorTwoTrucks();
        out.assign(5);
        out.out(0, true);
        CHECK.refused("the door is out", STATE, () -> out.call(0));
        out.out(0, false);
        CHECK.refused("the plan is lost all the same", STATE, () -> out.call(0));
    }

    private static void promise9Seal() {
        DockBook book = oneDoorTwoTrucks();
        CHECK.refused("seal(2, 10000)", NONE_SUCH, () -> book.seal(2, 10000));
        CHECK.refused("seal(-1, 0)", NONE_SUCH, () -> book.seal(-1, 0));
        CHECK.refused("seal(0, -1)", RANGE, () -> book.seal(0, -1));
        CHECK.refused("seal(0, 10000)", RANGE, () -> book.seal(0, 10000));
        int[][] tellings = {{0, 0}, {0, 1}, {0, 1}, {9999, 2}, {0, 0}, {9999, 2}, {9999, 0}, {9999, 1}};
        for (int[] telling : tellings) {
            CHECK.same("seal(0, " + telling[0] + ")", book.seal(0, telling[0]), telling[1]);
        }
        CHECK.same("another truck's seal", book.seal(1, 9999), 0);
        book.assign(5);
        book.call(0);
        CHECK.same("at the door", book.seal(0, 9999), 1);
        book.cancel(1);
        CHECK.refused("cancelled", STATE, () -> book.seal(1, 9999));
        CHECK.refused("cancelled, out of range", RANGE, () -> book.seal(1, 10000));
        CHECK.refused("gone", STATE, () -> truckGone().seal(0, 1));
    }

    private static void promise10Load() {
        DockBook book = truckAtDoor();
        CHECK.refused("load(2, -1, 0)", NONE_SUCH, () -> book.load(2, -1, 0));
        CHECK.refused("load(-1, 0, 0)", NONE_SUCH, () -> book.load(-1, 0, 0));
        int[][] wrong = {{-1, 0}, {0, -1}, {10001, 0}, {0, 10001}, {10001, 10001}, {-1, -1}};
        for (int[] w : wrong) {
            CHECK.refused("load(0, " + w[0] + ", " + w[1] + ")", RANGE, () -> book.load(0, w[0], w[1]));
            CHECK.refused("load(1, " + w[0] + ", " + w[1] + ")", RANGE, () -> book.load(1, w[0], w[1]));
        }
        CHECK.refused("it waits", STATE, () -> book.load(1, 0, 0));
        book.cancel(1);
        CHECK.refused("it is cancelled", STATE, () -> book.load(1, 0, 0));
        CHECK.refused("it is gone", STATE, () -> truckGone().load(0, 0, 0));
        CHECK.same("load(0, 0, 0)", book.load(0, 0, 0), true);
        CHECK.same("load(0, 10000, 10000)", book.load(0, 10000, 10000), true);
        CHECK.same("load(0, 3, 4)", book.load(0, 3, 4), false);
        CHECK.same("load(0, 4, 3)", book.load(0, 4, 3), false);
    }

    private static void promise11Depart() {
        DockBook book = truckAtDoor();
        CHECK.refused("depart(2)", NONE_SUCH, () -> book.depart(2));
        CHECK.refused("depart(-1)", NONE_SUCH, () -> book.depart(-1));
        CHECK.refused("it waits", STATE, () -> book.depart(1));
        CHECK.same("no seal", book.depart(0), 2);
        book.seal(0, 5);
        CHECK.same("a seal told once", book.depart(0), 2);
        book.load(0, 1, 1);
        CHECK.same("a seal told once, and a load", book.depart(0), 2);
        book.seal(0, 5);
        CHECK.same("too early", book.depart(0), 4);
        book.pass(9);
        CHECK.same("one minute too early", book.depart(0), 4);
        book.out(0, true);
        book.pass(10);
        CHECK.same("state before", book.told(0, 0), 1);
        CHECK.same("in time, though the door is out", book.depart(0), 1);
        CHECK.same("state", book.told(0, 0), 2);
        CHECK.same("minutes", book.told(0, 7), 10);
        CHECK.same("the door is empty", book.known(0, 0), -1);
        CHECK.same("departed from it", book.known(0, 4), 1);
        CHECK.refused("it is gone", STATE, () -> book.depart(0));
        book.cancel(1);
        CHECK.refused("it is cancelled", STATE, () -> book.depart(1));
    }

    private static void promise11SealAndLoadAnew() {
        DockBook book = truckAtDoor();
        book.pass(50);
        book.seal(0, 5);
        book.seal(0, 5);
        CHECK.same("no load", book.depart(0), 3);
        book.load(0, 2, 1);
        CHECK.same("not the same", book.depart(0), 3);
        book.load(0, 2, 2);
        book.load(0, 1, 2);
        CHECK.same("not the same when told last", book.depart(0), 3);
        book.load(0, 2, 2);
        book.seal(0, 6);
        CHECK.same("another seal", book.depart(0), 2);
        book.seal(0, 5);
        CHECK.same("the old seal told once anew", book.depart(0), 2);
        book.seal(0, 5);
        CHECK.same("departs at last", book.depart(0), 1);
        CHECK.same("minutes", book.told(0, 7), 50);
    }

    private static void promise12Late() {
        DockBook book = oneDoorTwoTrucks();
        CHECK.refused("late(2, -1)", NONE_SUCH, () -> book.late(2, -1));
        CHECK.refused("late(0, -1)", RANGE, () -> book.late(0, -1));
        CHECK.refused("late(0, 2001)", RANGE, () -> book.late(0, 2001));
        CHECK.same("nothing planned", book.late(1, 2000), false);
        CHECK.same("arrival", book.told(1, 3), 2000);
        book.late(1, 0);
        book.assign(5);
        CHECK.same("at its very start", book.late(1, 10), true);
        CHECK.same("keeps its door", book.told(1, 1), 0);
        CHECK.same("keeps its start", book.told(1, 2), 10);
        CHECK.same("earlier again", book.late(1, 4), true);
        CHECK.same("keeps its start then", book.told(1, 2), 10);
        CHECK.same("behind its start", book.late(1, 11), true);
        CHECK.same("loses its door", book.told(1, 1), -1);
        CHECK.same("loses its start", book.told(1, 2), -1);
        CHECK.same("nothing any more", book.late(1, 0), false);
        book.call(0);
        CHECK.refused("it is at a door", STATE, () -> book.late(0, 5));
        CHECK.refused("it is at a door, out of range", RANGE, () -> book.late(0, 2001));
        book.cancel(1);
        CHECK.refused("it is cancelled", STATE, () -> book.late(1, 5));
        CHECK.refused("it is gone", STATE, () -> truckGone().late(0, 5));
    }

    private static void promise13Cancel() {
        DockBook book = oneDoorTwoTrucks();
        CHECK.refused("cancel(-1)", NONE_SUCH, () -> book.cancel(-1));
        CHECK.refused("cancel(2)", NONE_SUCH, () -> book.cancel(2));
        book.assign(5);
        CHECK.quiet("cancel(0)", () -> book.cancel(0));
        CHECK.same("state", book.told(0, 0), 3);
        CHECK.same("cancelled ones", book.count(5), 1);
        CHECK.same("waiting ones", book.count(2), 1);
        CHECK.same("planned for the door", book.known(0, 2), 1);
        CHECK.same("the other keeps its plan", book.told(1, 2), 10);
        CHECK.refused("it is cancelled", STATE, () -> book.cancel(0));
        book.pass(10);
        book.call(1);
        CHECK.refused("it is at a door", STATE, () -> book.cancel(1));
        CHECK.refused("it is gone", STATE, () -> truckGone().cancel(0));
    }

    private static void promise14Out() {
        DockBook book = oneDoorTwoTrucks();
        book.door(1, 0, 100);
        book.truck(0, 0, 30, 1);
        CHECK.refused("out(2, true)", NONE_SUCH, () -> book.out(2, true));
        CHECK.refused("out(-1, false)", NONE_SUCH, () -> book.out(-1, false));
        CHECK.refused("it is not out", STATE, () -> book.out(0, false));
        book.assign(5);
        CHECK.same("planned for door 0", book.known(0, 2), 2);
        book.call(book.order(0, 0));
        CHECK.same("one waiting truck lost its plan", book.out(0, true), 1);
        CHECK.same("the truck at it stays", book.known(0, 0), 0);
        CHECK.same("planned for door 0 then", book.known(0, 2), 0);
        CHECK.same("planned for door 1", book.known(1, 2), 1);
        CHECK.refused("it is out", STATE, () -> book.out(0, true));
        CHECK.same("the other door", book.out(1, true), 1);
        CHECK.same("not out", book.out(0, false), 0);
        CHECK.same("known", book.known(0, 1), 0);
        CHECK.same("out with no plans", book.out(0, true), 0);
        CHECK.same("known then", book.known(0, 1), 1);
    }
}
