import java.util.Random;

/** Exact plans of a few trucks that crowd at one or two doors, where many plans cost the same, against PlainDocks. */
public final class RandomPlansTest {
    private static final Check CHECK = new Check("RandomPlansTest");
    private static final int PLANS = 150000;

    public static void main(String[] args) {
        Random random = new Random(7);
        for (int i = 0; i < PLANS && CHECK.wrongSoFar() == 0; i++) {
            onePlan(random, i % 10 == 0 ? 2 : 1);
        }
        CHECK.finish();
    }

    private static void onePlan(Random random, int doors) {
        DockBook book = new DockBook();
        PlainDocks plain = new PlainDocks();
        StringBuilder text = new StringBuilder();
        for (int i = 0; i < doors; i++) {
            int from = random.nextInt(4);
            int to = from + 5 + random.nextInt(25);
            text.append("door(1, ").append(from).append(", ").append(to).append(") ");
            book.door(1, from, to);
            plain.door(1, from, to);
        }
        int trucks = 2 + random.nextInt(4);
        int span = 2 + random.nextInt(12);
        int mostNeed = 1 + random.nextInt(6);
        for (int i = 0; i < trucks; i++) {
            int arrival = random.nextInt(span);
            int need = 1 + random.nextInt(mostNeed);
            text.append("truck(0, ").append(arrival).append(", ").append(need).append(", 1) ");
            book.truck(0, arrival, need, 1);
            plain.truck(0, arrival, need, 1);
        }
        CHECK.same(text + "assign(5)", book.assign(5), plain.assign(5));
        for (int i = 0; i < trucks; i++) {
            CHECK.same(text + "told(" + i + ", 1)", book.told(i, 1), plain.told(i, 1));
            CHECK.same(text + "told(" + i + ", 2)", book.told(i, 2), plain.told(i, 2));
        }
    }
}
