import java.util.function.LongSupplier;

/** Counts and prints the answers that are not as due. */
final class Check {
    private int wrong = 0;
    private int asked = 0;

    /** What a call answers, or the name of the class that it throws. */
    static String answer(LongSupplier call) {
        try {
            return Long.toString(call.getAsLong());
        } catch (RuntimeException e) {
            return "throws " + e.getClass().getSimpleName();
        }
    }

    static long bit(boolean answer) {
        return answer ? 1 : 0;
    }

    void same(String what, String got, String due) {
        asked++;
        if (!got.equals(due)) {
            wrong++;
            if (wrong <= 40) {
                System.out.println(what + " answered " + got + ", due is " + due);
            }
        }
    }

    void same(String what, long got, long due) {
        same(what, Long.toString(got), Long.toString(due));
    }

    void yes(String what, boolean got) {
        same(what, Boolean.toString(got), "true");
    }

    void no(String what, boolean got) {
        same(what, Boolean.toString(got), "false");
    }

    void index(String what, LongSupplier call) {
        same(what, answer(call), "throws IndexOutOfBoundsException");
    }

    void state(String what, LongSupplier call) {
        same(what, answer(call), "throws IllegalStateException");
    }

    void argument(String what, LongSupplier call) {
        same(what, answer(call), "throws IllegalArgumentException");
    }

    /** The plan's pieces, each as x,y,along,wide:piece. */
    static String pieces(FaultRips x) {
        StringBuilder text = new StringBuilder();
        int n = x.at(FaultRips.NONE, 0);
        for (int k = 0; k < n; k++) {
            text.append(k == 0 ? "" : " ").append(x.at(k, 0)).append(',').append(x.at(k, 1)).append(',')
                    .append(x.at(k, 2)).append(',').append(x.at(k, 3)).append(':').append(x.at(k, 4));
        }
        return text.toString();
    }

    static String rows(FaultRips x) {
        StringBuilder text = new StringBuilder();
        int n = x.salvage(FaultRips.NONE, 0);
        for (int k = 0; k < n; k++) {
            text.append(k == 0 ? "" : " ").append(x.salvage(k, 0)).append(',').append(x.salvage(k, 1)).append(',')
                    .append(x.salvage(k, 2));
        }
        return text.toString();
    }

    void end(String name) {
        System.out.println(name + ": " + asked + " answers, " + wrong + " not as due");
        if (wrong != 0) {
            System.exit(1);
        }
    }
}
