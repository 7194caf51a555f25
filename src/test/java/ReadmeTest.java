/** The run of calls that README.md shows, with the answers that it tells. */
public final class ReadmeTest {
    public static void main(String[] args) {
        Check check = new Check("ReadmeTest");
        DockBook book = new DockBook();
        int door = book.door(0b11, 0, 200);
        check.same("door", door, 0);
        int first = book.truck(0, 10, 20, 1);
        check.same("first truck", first, 0);
        check.same("second truck", book.truck(1, 15, 10, 2), 1);
        check.same("assign", book.assign(5), 15);
        check.same("order", book.order(door, 0), first);
        check.same("planned start", book.told(first, 2), 10);
        book.pass(book.told(first, 2));
        book.call(first);
        check.same("seal", book.seal(first, 77), 0);
        check.same("seal again", book.seal(first, 77), 1);
        check.same("load", book.load(first, 4, 4), true);
        check.same("depart before its end", book.depart(first), 4);
        book.pass(30);
        check.same("depart", book.depart(first), 1);
        check.same("stay", book.told(first, 7), 20);
        check.finish();
    }
}
