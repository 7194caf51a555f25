import java.util.NoSuchElementException;

/** Books that tests begin with, and all that a book tells, in one text. */
final class Books {
    private Books() {
    }

    /** Rows of doors (kinds, from, to) and of trucks (kind, arrival, need, rank). */
    static DockBook of(int[][] doors, int[][] trucks) {
        DockBook book = new DockBook();
        for (int[] d : doors) {
            book.door(d[0], d[1], d[2]);
        }
        for (int[] t : trucks) {
            book.truck(t[0], t[1], t[2], t[3]);
        }
        return book;
    }

    static int[][] rows(int[]... rows) {
        return rows;
    }

    static int[] row(int... numbers) {
        return numbers;
    }

    /** A truck that is at a door and has all that it needs but time departs. */
    static int clearAndDepart(DockBook book, int truck) {
        book.seal(truck, 1);
        book.seal(truck, 1);
        book.load(truck, 1, 1);
        return book.depart(truck);
    }

    /** Doors and starts of the trucks 0 .. n-1, as "door@start", "-" for nothing. */
    static String plan(DockBook book, int n) {
        StringBuilder text = new StringBuilder();
        for (int i = 0; i < n; i++) {
            int door = book.told(i, 1);
            int start = book.told(i, 2);
            text.append(i == 0 ? "" : " ").append(door == -1 && start == -1 ? "-" : door + "@" + start);
        }
        return text.toString();
    }

    /**
     * Some 170 calls at most, so that two of them and what lies between stay
     * within the 512 calls of an object.
     */
    static String all(DockBook book) {
        StringBuilder text = new StringBuilder();
        text.append(book.exact()).append(' ').append(book.moved()).append(' ').append(book.bound());
        for (int what = 0; what <= 7; what++) {
            text.append(' ').append(book.count(what));
        }
        for (int truck = 0; truck < book.count(1); truck++) {
            text.append("\n  truck ").append(truck);
            for (int what = 0; what <= 7; what++) {
                text.append(' ').append(book.told(truck, what));
            }
        }
        for (int door = 0; door < book.count(0); door++) {
            text.append("\n  door ").append(door);
            for (int what = 0; what <= 4; what++) {
                text.append(' ').append(book.known(door, what));
            }
            text.append(':').append(orderAt(book, door));
        }
        return text.toString();
    }

    private static String orderAt(DockBook book, int door) {
        StringBuilder text = new StringBuilder();
        try {
            for (int i = 0; i <= 12; i++) {
                text.append(' ').append(book.order(door, i));
            }
        } catch (NoSuchElementException e) {
            return text.toString();
        }
        return text.append(" without an end").toString();
    }
}
