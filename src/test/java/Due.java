import java.util.function.IntSupplier;

/** Compares answers with those that are due, and prints each one that is not. */
final class Due {
    private final String test;
    private int checked = 0;
    private int wrong = 0;

    Due(String test) {
        this.test = test;
    }

    void is(String call, int got, int want) {
        same(call, String.valueOf(got), String.valueOf(want));
    }

    void isTrue(String what, boolean holds) {
        same(what, String.valueOf(holds), "true");
    }

    void same(String call, String got, String want) {
        checked++;
        if (!got.equals(want)) {
            wrong++;
            System.out.println(test + ": " + call + " answered " + got + ", due is " + want);
        }
    }

    void illegalArgument(String call, IntSupplier made) {
        same(call, outcome(made), "throws.IllegalArgumentException");
    }

    void illegalState(String call, IntSupplier made) {
        same(call, outcome(made), "throws.IllegalStateException");
    }

    void outOfBounds(String call, IntSupplier made) {
        same(call, outcome(made), "throws.IndexOutOfBoundsException");
    }

    /** What a call answers, or the exact class that it throws: one of the machine's own is another. */
    static String outcome(IntSupplier made) {
        try {
            return String.valueOf(made.getAsInt());
        } catch (RuntimeException e) {
            return "throws." + e.getClass().getSimpleName();
        }
    }

    /** Ends the program: with 1 if an answer was wrong, or if nothing was compared. */
    void end() {
        System.out.println(test + ": " + checked + " answers compared, " + wrong + " wrong");
        System.exit(wrong == 0 && checked > 0 ? 0 : 1);
    }
}
