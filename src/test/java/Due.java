import java.util.function.IntSupplier;
import java.util.function.IntUnaryOperator;

/** Compares answers with those that are due, and prints each one that is not. */
final class Due {
    private final String test;
    private int checked = 0;
    private int wrong = 0;

    Due(String test) {
        this.test = test;
    }

    void is(String call, int got, int want) {
        same(call, String.valueOf(got), String.valueOf(want));
    }

    void same(String call, String got, String want) {
        checked++;
        if (!got.equals(want)) {
            wrong++;
            System.out.println(test + ": " + call + " answered " + got + ", due is " + want);
        }
    }

    /** Like is, for a call that may throw what it should not. */
    void answers(String call, IntSupplier made, int want) {
        same(call, outcome(made), String.valueOf(want));
    }

    void illegalArgument(String call, IntSupplier made) {
        same(call, outcome(made), "throws.IllegalArgumentException");
    }

    void illegalState(String call, IntSupplier made) {
        same(call, outcome(made), "throws.IllegalStateException");
    }

    void outOfBounds(String call, IntSupplier made) {
        same(call, outcome(made), "throws.IndexOutOfBoundsException");
    }

    /** The answers at the least and the greatest value of an argument; those outside are refused. */
    void range(String argument, int least, int atLeast, int greatest, int atGreatest, IntUnaryOperator call) {
        answers(argument + ", the least: " + least, () -> call.applyAsInt(least), atLeast);
        answers(argument + ", the greatest: " + greatest, () -> call.applyAsInt(greatest), atGreatest);
        refusedOutside(argument, least, greatest, call);
    }

    /** Each value just outside a range, and the farthest ones, are no arguments. */
    void refusedOutside(String argument, int least, int greatest, IntUnaryOperator call) {
        illegalArgument(argument + ", just below: " + (least - 1), () -> call.applyAsInt(least - 1));
        illegalArgument(argument + ", just above: " + (greatest + 1), () -> call.applyAsInt(greatest + 1));
        illegalArgument(argument + ", the least int", () -> call.applyAsInt(Integer.MIN_VALUE));
        illegalArgument(argument + ", the greatest int", () -> call.applyAsInt(Integer.MAX_VALUE));
    }

    /** The answers for the first and the last one of count; there is none outside. */
    void places(String argument, int count, int atFirst, int atLast, IntUnaryOperator call) {
        answers(argument + ", the first: 0", () -> call.applyAsInt(0), atFirst);
        answers(argument + ", the last: " + (count - 1), () -> call.applyAsInt(count - 1), atLast);
        noneOutside(argument, count, call);
    }

    /** There is none below the first one, nor behind the last one of count. */
    void noneOutside(String argument, int count, IntUnaryOperator call) {
        outOfBounds(argument + ", behind the last: " + count, () -> call.applyAsInt(count));
        outOfBounds(argument + ", ahead of the first: -1", () -> call.applyAsInt(-1));
        outOfBounds(argument + ", the least int", () -> call.applyAsInt(Integer.MIN_VALUE));
        outOfBounds(argument + ", the greatest int", () -> call.applyAsInt(Integer.MAX_VALUE));
    }

    /** What a call answers, or the exact class that it throws: one of the machine's own is another. */
    static String outcome(IntSupplier made) {
        try {
            return String.valueOf(made.getAsInt());
        } catch (RuntimeException e) {
            return "throws." + e.getClass().getSimpleName();
        }
    }

    /** Ends the program: with 1 if an answer was wrong, or if nothing was compared. */
    void end() {
        System.out.println(test + ": " + checked + " answers compared, " + wrong + " wrong");
        System.exit(wrong == 0 && checked > 0 ? 0 : 1);
    }
}
