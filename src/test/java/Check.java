/** Compares answers with those that are due, prints the others, and ends with exit code 1 if there was one. */
final class Check {
    interface Call {
        void run();
    }

    private final String name;
    private int looked = 0;
    private int wrong = 0;

    Check(String name) {
        this.name = name;
    }

    void same(String what, long got, long due) {
        looked++;
        if (got != due) {
            tell(what + " answered " + got + ", due is " + due);
        }
    }

    void same(String what, boolean got, boolean due) {
        same(what, got ? 1 : 0, due ? 1 : 0);
    }

    void same(String what, String got, String due) {
        looked++;
        if (!got.equals(due)) {
            tell(what + " answered " + got + ", due is " + due);
        }
    }

    /** The exact class is looked at: IllegalArgumentException has classes below it that are not due. */
    void refused(String what, Class<? extends RuntimeException> due, Call call) {
        same(what, thrownBy(call), due.getSimpleName());
    }

    void quiet(String what, Call call) {
        same(what, thrownBy(call), "nothing");
    }

    private static String thrownBy(Call call) {
        try {
            call.run();
            return "nothing";
        } catch (RuntimeException e) {
            return e.getClass().getSimpleName();
        }
    }

    int wrongSoFar() {
        return wrong;
    }

    private void tell(String text) {
        wrong++;
        System.out.println(name + ": " + text);
    }

    void finish() {
        System.out.println(name + ": " + looked + " answers, " + wrong + " wrong");
        if (wrong != 0 || looked == 0) {
            System.exit(1);
        }
    }
}
