import java.util.NoSuchElementException;

/** Promises 1 to 3, 15 and 17 to 19: what is registered and what is told of it. */
public final class RegistryTest {
    private static final Check CHECK = new Check("RegistryTest");
    private static final Class<IllegalArgumentException> RANGE = IllegalArgumentException.class;
    private static final Class<NoSuchElementException> NONE_SUCH = NoSuchElementException.class;
    private static final Class<UnsupportedOperationException> NO_ROOM = UnsupportedOperationException.class;

    public static void main(String[] args) {
        promise1NewObject();
        promise2Door();
        promise2Refusals();
        promise3Truck();
        promise3Refusals();
        promise15Pass();
        promise17Told();
        promise17AfterEnds();
        promise18Known();
        promise19Count();
        CHECK.finish();
    }

    private static void promise1NewObject() {
        DockBook book = new DockBook();
        for (int what = 0; what <= 7; what++) {
            CHECK.same("new count(" + what + ")", book.count(what), 0);
        }
        CHECK.same("new exact()", book.exact(), false);
        CHECK.same("new moved()", book.moved(), 0);
        CHECK.same("new bound()", book.bound(), 0);
        CHECK.refused("new told(0, 0)", NONE_SUCH, () -> book.told(0, 0));
        CHECK.refused("new known(0, 0)", NONE_SUCH, () -> book.known(0, 0));
        CHECK.quiet("new pass(0)", () -> book.pass(0));
        book.door(1, 0, 10);
        CHECK.same("another object's doors", new DockBook().count(0), 0);
    }

    private static void promise2Door() {
        DockBook book = new DockBook();
        CHECK.same("first door", book.door(255, 0, 2000), 0);
        CHECK.same("second door", book.door(1, 0, 1), 1);
        CHECK.same("third door", book.door(128, 1999, 2000), 2);
        CHECK.same("fourth door", book.door(5, 10, 20), 3);
        CHECK.same("kinds of 0", book.known(0, 3), 255);
        CHECK.same("kinds of 1", book.known(1, 3), 1);
        CHECK.same("kinds of 2", book.known(2, 3), 128);
        CHECK.same("kinds of 3", book.known(3, 3), 5);
        CHECK.refused("fifth door", NO_ROOM, () -> book.door(1, 0, 1));
        CHECK.refused("fifth door out of range", RANGE, () -> book.door(1, 1, 1));
        CHECK.same("doors", book.count(0), 4);
    }

    private static void promise2Refusals() {
        DockBook book = new DockBook();
        int[][] wrong = {
            {0, 0, 1}, {-1, 0, 1}, {256, 0, 1}, {1, -1, 1}, {1, 2000, 2001}, {1, 0, 2001}, {1, 0, 0}, {1, 9, 9},
            {1, 9, 8}, {1, 0, -1}, {1, Integer.MAX_VALUE, Integer.MIN_VALUE}, {1, 2000, 2000},
            {Integer.MIN_VALUE, 0, 1}, {Integer.MAX_VALUE, 0, 1}, {1, 0, Integer.MAX_VALUE}
        };
        for (int[] w : wrong) {
            CHECK.refused("door(" + w[0] + ", " + w[1] + ", " + w[2] + ")", RANGE, () -> book.door(w[0], w[1], w[2]));
        }
        CHECK.same("doors after refusals", book.count(0), 0);
    }

    private static void promise3Truck() {
        DockBook book = new DockBook();
        for (int i = 0; i < 12; i++) {
            CHECK.same("truck " + i, book.truck(i % 8, i == 11 ? 2000 : i, i == 11 ? 300 : 1, i == 11 ? 9 : 1), i);
            CHECK.same("state of " + i, book.told(i, 0), 0);
            CHECK.same("door of " + i, book.told(i, 1), -1);
            CHECK.same("start of " + i, book.told(i, 2), -1);
        }
        CHECK.refused("thirteenth truck", NO_ROOM, () -> book.truck(0, 0, 1, 1));
        CHECK.refused("thirteenth truck out of range", RANGE, () -> book.truck(0, 0, 0, 1));
        book.cancel(0);
        CHECK.refused("a cancelled truck leaves no room", NO_ROOM, () -> book.truck(0, 0, 1, 1));
        CHECK.same("trucks", book.count(1), 12);
    }

    private static void promise3Refusals() {
        DockBook book = new DockBook();
        int[][] wrong = {
            {-1, 0, 1, 1}, {8, 0, 1, 1}, {0, -1, 1, 1}, {0, 2001, 1, 1}, {0, 0, 0, 1}, {0, 0, 301, 1}, {0, 0, 1, 0},
            {0, 0, 1, 10}, {Integer.MIN_VALUE, 0, 1, 1}, {0, Integer.MAX_VALUE, 1, 1}, {0, 0, -5, 1}, {0, 0, 1, -1}
        };
        for (int[] w : wrong) {
            CHECK.refused("truck(" + w[0] + ", " + w[1] + ", " + w[2] + ", " + w[3] + ")", RANGE,
                    () -> book.truck(w[0], w[1], w[2], w[3]));
        }
        CHECK.same("trucks after refusals", book.count(1), 0);
        book.pass(50);
        CHECK.same("an arrival before now", book.truck(0, 0, 1, 1), 0);
    }

    private static void promise15Pass() {
        DockBook book = new DockBook();
        CHECK.refused("pass(-1)", RANGE, () -> book.pass(-1));
        CHECK.quiet("pass(7)", () -> book.pass(7));
        CHECK.same("now", book.count(6), 7);
        CHECK.quiet("pass(7) again", () -> book.pass(7));
        CHECK.refused("pass(6)", RANGE, () -> book.pass(6));
        CHECK.refused("pass(2001)", RANGE, () -> book.pass(2001));
        CHECK.same("now after refusals", book.count(6), 7);
        CHECK.quiet("pass(2000)", () -> book.pass(2000));
        CHECK.same("last now", book.count(6), 2000);
        CHECK.quiet("pass(2000) again", () -> book.pass(2000));
    }

    private static void promise17Told() {
        DockBook book = new DockBook();
        book.door(8, 20, 100);
        book.truck(3, 11, 44, 5);
        checkTold(book, 0, 0, -1, -1, 11, 44, 5, 3, -1);
        book.assign(1);
        checkTold(book, 0, 0, 0, 20, 11, 44, 5, 3, -1);
        book.pass(30);
        book.call(0);
        checkTold(book, 0, 1, 0, 30, 11, 44, 5, 3, -1);
        book.seal(0, 1);
        book.seal(0, 1);
        book.load(0, 2, 2);
        book.pass(80);
        book.depart(0);
        checkTold(book, 0, 2, 0, 30, 11, 44, 5, 3, 69);
        CHECK.refused("told(-1, 0)", NONE_SUCH, () -> book.told(-1, 0));
        CHECK.refused("told(1, 0)", NONE_SUCH, () -> book.told(1, 0));
        CHECK.refused("told(12, 0)", NONE_SUCH, () -> book.told(12, 0));
        CHECK.refused("told(MIN, 9)", NONE_SUCH, () -> book.told(Integer.MIN_VALUE, 9));
        CHECK.refused("told(0, -1)", RANGE, () -> book.told(0, -1));
        CHECK.refused("told(0, 8)", RANGE, () -> book.told(0, 8));
    }

    private static void promise17AfterEnds() {
        DockBook book = new DockBook();
        book.door(1, 0, 100);
        book.truck(0, 3, 4, 5);
        book.truck(0, 2, 4, 5);
        book.assign(2);
        book.cancel(0);
        checkTold(book, 0, 3, -1, -1, 3, 4, 5, 0, -1);
        book.late(1, 1);
        checkTold(book, 1, 0, 0, 2, 1, 4, 5, 0, -1);
        book.late(1, 9);
        checkTold(book, 1, 0, -1, -1, 9, 4, 5, 0, -1);
    }

    private static void checkTold(DockBook book, int truck, int... due) {
        for (int what = 0; what < due.length; what++) {
            CHECK.same("told(" + truck + ", " + what + ")", book.told(truck, what), due[what]);
        }
    }

    private static void promise18Known() {
        DockBook book = new DockBook();
        book.door(3, 0, 100);
        book.door(4, 0, 100);
        book.truck(0, 0, 10, 1);
        book.truck(1, 0, 20, 1);
        book.truck(2, 0, 20, 1);
        checkKnown(book, 0, -1, 0, 0, 3, 0);
        book.assign(3);
        checkKnown(book, 0, -1, 0, 2, 3, 0);
        checkKnown(book, 1, -1, 0, 1, 4, 0);
        book.call(0);
        book.call(2);
        checkKnown(book, 0, 0, 0, 1, 3, 0);
        checkKnown(book, 1, 2, 0, 0, 4, 0);
        book.seal(0, 1);
        book.seal(0, 1);
        book.load(0, 0, 0);
        book.pass(10);
        book.depart(0);
        checkKnown(book, 0, -1, 0, 1, 3, 1);
        book.out(0, true);
        checkKnown(book, 0, -1, 1, 0, 3, 1);
        book.out(0, false);
        checkKnown(book, 0, -1, 0, 0, 3, 1);
        CHECK.refused("known(-1, 0)", NONE_SUCH, () -> book.known(-1, 0));
        CHECK.refused("known(2, 0)", NONE_SUCH, () -> book.known(2, 0));
        CHECK.refused("known(4, 9)", NONE_SUCH, () -> book.known(4, 9));
        CHECK.refused("known(0, -1)", RANGE, () -> book.known(0, -1));
        CHECK.refused("known(0, 5)", RANGE, () -> book.known(0, 5));
    }

    private static void checkKnown(DockBook book, int door, int... due) {
        for (int what = 0; what < due.length; what++) {
            CHECK.same("known(" + door + ", " + what + ")", book.known(door, what), due[what]);
        }
    }

    private static void promise19Count() {
        DockBook book = new DockBook();
        book.door(1, 10, 100);
        for (int i = 0; i < 5; i++) {
            book.truck(0, i, 10, 1);
        }
        checkCount(book, 1, 5, 5, 0, 0, 0, 0, 25000);
        book.assign(5);
        checkCount(book, 1, 5, 5, 0, 0, 0, 0, 10 + 19 + 28 + 37 + 46);
        book.late(0, 5);
        CHECK.same("cost with another arrival", book.count(7), 5 + 19 + 28 + 37 + 46);
        book.late(0, 11);
        CHECK.same("cost with a plan lost", book.count(7), 5000 + 19 + 28 + 37 + 46);
        book.pass(20);
        book.call(1);
        checkCount(book, 1, 5, 4, 1, 0, 0, 20, 5000 + 28 + 37 + 46);
        book.cancel(2);
        checkCount(book, 1, 5, 3, 1, 0, 1, 20, 5000 + 37 + 46);
        book.seal(1, 1);
        book.seal(1, 1);
        book.load(1, 0, 0);
        book.pass(30);
        book.depart(1);
        checkCount(book, 1, 5, 3, 0, 1, 1, 30, 5000 + 37 + 46);
        CHECK.same("count(-1)", book.count(-1), -1);
        CHECK.same("count(8)", book.count(8), -1);
        CHECK.same("count(MAX)", book.count(Integer.MAX_VALUE), -1);
        CHECK.same("count(MIN)", book.count(Integer.MIN_VALUE), -1);
    }

    private static void checkCount(DockBook book, int... due) {
        for (int what = 0; what < due.length; what++) {
            CHECK.same("count(" + what + ")", book.count(what), due[what]);
        }
    }
}
