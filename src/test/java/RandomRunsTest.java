import java.util.Random;
import java.util.function.IntSupplier;

/** Long runs of calls, right and wrong ones, with the same answers and states as PlainDocks. */
public final class RandomRunsTest {
    private static final Check CHECK = new Check("RandomRunsTest");
    private static final int RUNS = 1500;
    /** The calls for which an object is promised to answer rightly. */
    private static final int CALLS = 512;
    private static final int MOST_CALLS_TO_COMPARE_ALL = 190;
    private static final int[] ODD = {-1, Integer.MIN_VALUE, Integer.MAX_VALUE, 12, 301, 2001, 10001};

    private final Random random;
    private final DockBook book = new DockBook();
    private final PlainDocks plain = new PlainDocks();
    private final StringBuilder calls = new StringBuilder();
    private final int span;
    private final int mostNeed;
    private int now = 0;
    private int callsOfBook = 0;

    private RandomRunsTest(long seed) {
        random = new Random(seed);
        // Short spans with short needs bring many plans of equal cost.
        span = new int[] {12, 60, 300, 2000}[random.nextInt(4)];
        mostNeed = span == 2000 ? 300 : Math.max(2, span / 4);
    }

    public static void main(String[] args) {
        for (int seed = 1; seed <= RUNS && CHECK.wrongSoFar() == 0; seed++) {
            new RandomRunsTest(seed).run(seed);
        }
        CHECK.finish();
    }

    private void run(int seed) {
        String call = "";
        for (int i = 0; callsOfBook < CALLS - MOST_CALLS_TO_COMPARE_ALL && CHECK.wrongSoFar() == 0; i++) {
            call = oneCall(i);
            if (CHECK.wrongSoFar() == 0 && i % 25 == 0) {
                comparePlans(call);
            }
        }
        if (CHECK.wrongSoFar() == 0) {
            compareAll(call);
            CHECK.same("within the calls of an object", callsOfBook <= CALLS, true);
        }
        if (CHECK.wrongSoFar() != 0) {
            System.out.println("seed " + seed + ":\n" + calls);
        }
    }

    private int some(int least, int greatest) {
        return random.nextInt(60) == 0 ? ODD[random.nextInt(ODD.length)] : least + random.nextInt(greatest - least + 1);
    }

    private int someTruck() {
        return some(0, Math.max(0, Math.min(11, plain.count(1))));
    }

    private int someDoor() {
        return some(0, Math.max(0, plain.count(0) - 1));
    }

    private String oneCall(int i) {
        int a = someTruck();
        int d = someDoor();
        boolean on = random.nextInt(3) == 0;
        switch (i < 8 ? random.nextInt(5) : random.nextInt(40)) {
            case 0:
            case 1: {
                int kinds = random.nextInt(3) == 0 ? some(0, 256) : 255;
                int from = some(0, span / 2);
                int to = random.nextInt(9) == 0 ? some(0, 2000) : some(span / 2, span);
                return compare("door(" + kinds + ", " + from + ", " + to + ")",
                        () -> book.door(kinds, from, to), () -> plain.door(kinds, from, to));
            }
            case 2:
            case 3:
            case 4: {
                int kind = some(0, 7);
                int arrival = some(0, span);
                int need = some(1, mostNeed);
                int rank = some(1, random.nextBoolean() ? 2 : 9);
                return compare("truck(" + kind + ", " + arrival + ", " + need + ", " + rank + ")",
                        () -> book.truck(kind, arrival, need, rank), () -> plain.truck(kind, arrival, need, rank));
            }
            case 5: case 6: case 7: case 8: {
                int most = random.nextInt(3) == 0 ? some(0, 5) : 5;
                return compare("assign(" + most + ")", () -> book.assign(most), () -> plain.assign(most));
            }
            case 9: case 10: case 11: case 12: case 13: case 14:
                return compare("call(" + a + ")", () -> done(() -> book.call(a)), () -> done(() -> plain.call(a)));
            case 15: case 16: case 17: case 18: case 19: case 20: {
                int number = random.nextInt(5) == 0 ? some(0, 10000) : some(0, 1);
                return compare("seal(" + a + ", " + number + ")",
                        () -> book.seal(a, number), () -> plain.seal(a, number));
            }
            case 21: case 22: case 23: case 24: {
                int ordered = some(0, 2);
                int loaded = some(0, 2);
                return compare("load(" + a + ", " + ordered + ", " + loaded + ")",
                        () -> bit(book.load(a, ordered, loaded)), () -> bit(plain.load(a, ordered, loaded)));
            }
            case 25: case 26: case 27: case 28: case 29:
                return compare("depart(" + a + ")", () -> book.depart(a), () -> plain.depart(a));
            case 30: {
                int arrival = some(0, span);
                return compare("late(" + a + ", " + arrival + ")",
                        () -> bit(book.late(a, arrival)), () -> bit(plain.late(a, arrival)));
            }
            case 31:
                return random.nextInt(3) != 0 ? "" : compare("cancel(" + a + ")",
                        () -> done(() -> book.cancel(a)), () -> done(() -> plain.cancel(a)));
            case 32: case 33:
                return compare("out(" + d + ", " + on + ")", () -> book.out(d, on), () -> plain.out(d, on));
            case 34: case 35: case 36: {
                int time = random.nextInt(6) == 0 ? some(0, 2001) % (span + 5) : now + some(0, Math.max(1, span / 60));
                String said = compare("pass(" + time + ")",
                        () -> done(() -> book.pass(time)), () -> done(() -> plain.pass(time)));
                now = plain.count(6);
                return said;
            }
            default: {
                int what = some(-1, 8);
                compare("told(" + a + ", " + what + ")", () -> book.told(a, what), () -> plain.told(a, what));
                compare("count(" + what + ")", () -> book.count(what), () -> plain.count(what));
                compare("order(" + d + ", " + what + ")", () -> book.order(d, what), () -> plain.order(d, what));
                return compare("known(" + d + ", " + what + ")",
                        () -> book.known(d, what), () -> plain.known(d, what));
            }
        }
    }

    private static int bit(boolean value) {
        return value ? 1 : 0;
    }

    private static int done(Check.Call call) {
        call.run();
        return 0;
    }

    private String answerOfBook(IntSupplier call) {
        callsOfBook++;
        return answerOf(call);
    }

    private static String answerOf(IntSupplier call) {
        try {
            return String.valueOf(call.getAsInt());
        } catch (RuntimeException e) {
            return "throws." + e.getClass().getSimpleName();
        }
    }

    private String compare(String name, IntSupplier got, IntSupplier due) {
        String answer = answerOfBook(got);
        calls.append(name).append(" = ").append(answer).append('\n');
        CHECK.same(name, answer, answerOf(due));
        return name;
    }

    private void comparePlans(String call) {
        String behind = " behind " + call;
        compare("exact()" + behind, () -> bit(book.exact()), () -> bit(plain.exact()));
        compare("moved()" + behind, book::moved, plain::moved);
        compare("bound()" + behind, book::bound, plain::bound);
        compare("count(7)" + behind, () -> book.count(7), () -> plain.count(7));
        for (int i = 0; i < plain.count(1); i++) {
            int t = i;
            compare("told(" + t + ", 2)" + behind, () -> book.told(t, 2), () -> plain.told(t, 2));
        }
    }

    private void compareAll(String call) {
        comparePlans(call);
        String behind = " behind " + call;
        for (int what = 0; what <= 7; what++) {
            int w = what;
            compare("count(" + w + ")" + behind, () -> book.count(w), () -> plain.count(w));
            for (int i = 0; i < plain.count(1); i++) {
                int t = i;
                compare("told(" + t + ", " + w + ")" + behind, () -> book.told(t, w), () -> plain.told(t, w));
            }
            for (int i = 0; w <= 4 && i < plain.count(0); i++) {
                int d = i;
                compare("known(" + d + ", " + w + ")" + behind, () -> book.known(d, w), () -> plain.known(d, w));
            }
        }
        for (int i = 0; i < plain.count(0); i++) {
            for (int k = 0; k <= plain.known(i, 2); k++) {
                int d = i;
                int place = k;
                compare("order(" + d + ", " + k + ")" + behind,
                        () -> book.order(d, place), () -> plain.order(d, place));
            }
        }
    }
}
