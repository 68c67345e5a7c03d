/** Promises 14 to 19 and the terms of the funnel at their boundaries, each sentence by a test of its own. */
public final class FunnelEdgesTest {
    private static final Due due = new Due("FunnelEdgesTest");

    public static void main(String[] args) {
        stepArgument();
        stepCount();
        stepWithTwoExceptions();
        clearFunnelEdges();
        windowArgument();
        windowAnswers();
        windowAtItsMinute();
        oneEventForEachStep();
        laterBehindEarlier();
        depthEdges();
        depthOfTheStepsInTurn();
        passedSteps();
        passedUsers();
        passedByTheWindowAsItIs();
        fastestEdges();
        fastestOfNone();
        fastestAtTheWindow();
        choicesAmongManyEvents();
        closedDays();
        due.end();
    }

    /** Events of the user 0, each a kind and a time. */
    private static FunnelFold add(FunnelFold x, int... kindsAndTimes) {
        for (int at = 0; at < kindsAndTimes.length; at += 2) {
            x.event(0, kindsAndTimes[at], kindsAndTimes[at + 1]);
        }
        return x;
    }

    private static FunnelFold sixSteps() {
        return Stores.withSteps(0, 1, 2, 3, 4, 5);
    }

    private static FunnelFold withWindow(FunnelFold x, int minutes) {
        x.window(minutes);
        return x;
    }

    /** Promise 14: a kind 0 to 9. */
    private static void stepArgument() {
        due.range("14, kind", 0, 1, 9, 1, kind -> new FunnelFold().step(kind));
        for (int kind = 0; kind <= 9; kind++) {
            FunnelFold x = Stores.withSteps(kind);
            add(x, (kind + 9) % 10, 0);
            due.is("14, the kind " + kind + ": another event", x.depth(0), 0);
            add(x, kind, 0);
            due.is("14, the kind " + kind + ": its event", x.depth(0), 1);
        }
    }

    /** Terms and promise 14: at most 6 steps; answers how many there are then. */
    private static void stepCount() {
        FunnelFold x = new FunnelFold();
        for (int count = 1; count <= 6; count++) {
            due.is("14, the " + count + ". step", x.step(9), count);
        }
        for (int kind = 0; kind <= 9; kind++) {
            int seventh = kind;
            due.illegalState("14, the 7. step: " + kind, () -> x.step(seventh));
        }
        x.clearFunnel();
        for (int count = 1; count <= 6; count++) {
            due.is("14, cleared, the " + count + ". step", x.step(0), count);
        }
        due.illegalState("14, cleared, the 7. step", () -> x.step(0));
    }

    /** Where two exceptions apply, the one that is listed first: IllegalArgumentException. */
    private static void stepWithTwoExceptions() {
        due.refusedOutside("14, 6 steps and kind", 0, 9, kind -> sixSteps().step(kind));
    }

    /** Promise 15: takes all steps out; the window stays. */
    private static void clearFunnelEdges() {
        FunnelFold none = withWindow(new FunnelFold(), 7);
        none.clearFunnel();
        due.is("15, no steps: the next one", none.step(0), 1);
        due.is("15, no steps: the window stays", none.window(8), 7);
        FunnelFold six = withWindow(add(sixSteps(), 0, 0), 1999);
        six.clearFunnel();
        due.outOfBounds("15, 6 steps: the step 0", () -> six.passed(0));
        due.outOfBounds("15, 6 steps: the step 5", () -> six.passed(5));
        due.is("15, 6 steps: depth", six.depth(0), 0);
        due.is("15, 6 steps: fastest", six.fastest(0), FunnelFold.NONE);
        due.is("15, 6 steps: the next one", six.step(9), 1);
        due.is("15, 6 steps: the old ones are not behind it", six.depth(0), 0);
        due.is("15, 6 steps: the window stays", six.window(8), 1999);
        FunnelFold fresh = new FunnelFold();
        fresh.clearFunnel();
        due.is("15, the first window stays", fresh.window(8), 100);
        due.is("15, the gap stays", fresh.gap(8), 30);
    }

    /** Promise 16: 0 to 1999 minutes. */
    private static void windowArgument() {
        due.range("16, minutes", 0, 100, 1999, 100, minutes -> new FunnelFold().window(minutes));
        due.range("16, minutes, set", 0, 0, 1999, 1999, minutes -> withWindow(new FunnelFold(), minutes).window(77));
    }

    private static void windowAnswers() {
        FunnelFold x = new FunnelFold();
        due.is("16, the window before: the first one", x.window(100), 100);
        due.is("16, the window before: the same one", x.window(1999), 100);
        due.is("16, the window before: the greatest one", x.window(0), 1999);
        due.is("16, the window before: the least one", x.window(1), 0);
        x.gap(2);
        due.is("16, the window stays: another gap", x.window(3), 1);
    }

    /** Terms: the time of the last event is at most the window later than that of the first one. */
    private static void windowAtItsMinute() {
        int[] windows = {0, 1, 100, 999, 1998};
        for (int window : windows) {
            FunnelFold in = add(Stores.withSteps(1, 2), 1, 1, 2, 1 + window);
            due.is("terms, the window " + window + ": just so late", withWindow(in, window).depth(0), 2);
            if (window < 1998) {
                FunnelFold out = add(Stores.withSteps(1, 2), 1, 1, 2, 2 + window);
                due.is("terms, the window " + window + ": one later", withWindow(out, window).depth(0), 1);
            }
        }
        due.is("terms, the first window: 100 later", add(Stores.withSteps(1, 2), 1, 0, 2, 100).depth(0), 2);
        due.is("terms, the first window: 101 later", add(Stores.withSteps(1, 2), 1, 0, 2, 101).depth(0), 1);
        FunnelFold widest = add(Stores.withSteps(1, 2), 1, 0, 2, 1999);
        due.is("terms, the greatest window: 1999 later", withWindow(widest, 1999).depth(0), 2);
        due.is("terms, one less than that", withWindow(widest, 1998).depth(0), 1);
        FunnelFold between = add(Stores.withSteps(1, 2, 3), 1, 0, 2, 60, 3, 101);
        due.is("terms, from the first event, not from the one ahead", between.depth(0), 2);
        due.is("terms, the least window passes one step", withWindow(between, 0).depth(0), 1);
    }

    /** Terms: one event for each of the steps. */
    private static void oneEventForEachStep() {
        FunnelFold x = Stores.withSteps(5, 5, 5, 5, 5, 5);
        for (int count = 1; count <= 6; count++) {
            add(x, 5, 40);
            due.is("terms, 6 steps of one kind, events: " + count, x.depth(0), count);
            due.is("terms, 6 steps of one kind, fastest of: " + count, x.fastest(0), count < 6 ? FunnelFold.NONE : 0);
        }
        add(x, 5, 40);
        due.is("terms, 6 steps of one kind, a seventh event", x.depth(0), 6);
    }

    /** Terms: the later one behind the earlier one in order; others may lie between. */
    private static void laterBehindEarlier() {
        due.is("terms, the later one ahead", add(Stores.withSteps(1, 2), 2, 10, 1, 11).depth(0), 1);
        due.is("terms, one time, the later one with the lower number",
            add(Stores.withSteps(1, 2), 2, 10, 1, 10).depth(0), 1);
        due.is("terms, one time, the later one with the higher number",
            add(Stores.withSteps(1, 2), 1, 10, 2, 10).depth(0), 2);
        due.is("terms, a lower number, but a later time", add(Stores.withSteps(1, 2), 2, 11, 1, 10).depth(0), 2);
        due.is("terms, others between", add(Stores.withSteps(1, 2), 1, 10, 9, 11, 1, 12, 3, 12, 2, 13).depth(0), 2);
        FunnelFold x = add(Stores.withSteps(1, 2), 1, 0);
        for (int number = 1; number < 249; number++) {
            add(x, 3, 50);
        }
        add(x, 2, 100);
        due.is("terms, 248 others between", x.depth(0), 2);
    }

    private static void depthEdges() {
        due.range("17, id", 0, 1, 19, 1, id -> {
            FunnelFold x = Stores.allIdsAt(1999);
            x.step(0);
            return x.depth(id);
        });
        due.range("17, id, no events", 0, 0, 19, 0, id -> Stores.withSteps(0).depth(id));
        due.is("17, no steps", Stores.full(0).depth(0), 0);
        due.is("17, no steps, no events", new FunnelFold().depth(0), 0);
        due.is("17, 6 steps, no events", sixSteps().depth(0), 0);
        FunnelFold full = Stores.full(19);
        Stores.steps(full, 4, 5, 6, 7, 8, 9);
        due.is("17, 6 steps, 250 events", full.depth(19), 6);
        due.is("17, 6 steps, 250 events of another user", full.depth(18), 0);
        full.merge(18, 19);
        due.is("17, the lower id of a user, without events itself", full.depth(18), 6);
        due.is("17, the higher id of a user, with all 250 events", full.depth(19), 6);
        due.is("17, the last two of 250 events",
            withWindow(add(Stores.withSteps(1, 2), 1, 1999, 2, 1999), 0).depth(0), 2);
    }

    /** Terms: the greatest number of steps from the step 0 on; 0 if it does not pass the step 0. */
    private static void depthOfTheStepsInTurn() {
        for (int missing = 0; missing < 6; missing++) {
            FunnelFold x = sixSteps();
            for (int kind = 0; kind < 6; kind++) {
                if (kind != missing) {
                    add(x, kind, 10 + kind);
                }
            }
            due.is("17, all steps but the step " + missing, x.depth(0), missing);
            due.is("19, all steps but the step " + missing, x.fastest(0), FunnelFold.NONE);
            add(x, missing, 10 + missing);
            due.is("17, the step " + missing + " too", x.depth(0), 6);
            due.is("19, the step " + missing + " too", x.fastest(0), 5);
        }
    }

    /** Promise 18: the step 0 is the first one; refused if the funnel has not so many steps. */
    private static void passedSteps() {
        due.noneOutside("18, step, no steps", 0, step -> Stores.full(0).passed(step));
        due.places("18, step, one step", 1, 1, 1, step -> add(Stores.withSteps(0), 0, 0).passed(step));
        due.places("18, step, of two", 2, 1, 0, step -> add(Stores.withSteps(0, 1), 0, 0).passed(step));
        due.places("18, step, of 6", 6, 1, 0,
            step -> add(sixSteps(), 0, 0, 1, 0, 2, 0, 3, 0, 4, 0).passed(step));
        FunnelFold five = add(sixSteps(), 0, 0, 1, 0, 2, 0, 3, 0, 4, 0);
        due.is("18, the depth is greater than the step", five.passed(4), 1);
        due.is("18, the depth is as great as the step", five.passed(5), 0);
        due.noneOutside("18, step, cleared", 0, step -> {
            FunnelFold x = sixSteps();
            x.clearFunnel();
            return x.passed(step);
        });
    }

    private static void passedUsers() {
        due.is("18, no events", Stores.withSteps(0).passed(0), 0);
        due.is("18, no events, 6 steps", sixSteps().passed(5), 0);
        FunnelFold all = Stores.allIdsAt(0);
        all.step(0);
        due.is("18, all users", all.passed(0), 20);
        Stores.mergeAll(all);
        due.is("18, all users merged", all.passed(0), 1);
        FunnelFold last = Stores.at(19, 0);
        last.step(0);
        due.is("18, the user 19 alone", last.passed(0), 1);
        FunnelFold full = Stores.full(0);
        Stores.steps(full, 4, 5, 6, 7, 8, 9);
        due.is("18, 250 events, 6 steps", full.passed(5), 1);
    }

    /** Terms: told from the settings as they are when it is asked. */
    private static void passedByTheWindowAsItIs() {
        FunnelFold x = add(Stores.withSteps(1, 2), 1, 0, 2, 100);
        due.is("18, the first window", x.passed(1), 1);
        due.is("18, a window that is set later", withWindow(x, 99).passed(1), 0);
        due.is("18, a window that is set later, the step 0", x.passed(0), 1);
        due.is("18, and taken back", withWindow(x, 100).passed(1), 1);
        x.clearFunnel();
        Stores.steps(x, 2, 1);
        due.is("18, other steps", x.passed(1), 0);
    }

    private static void fastestEdges() {
        due.range("19, id", 0, 0, 19, 0, id -> {
            FunnelFold x = Stores.allIdsAt(1999);
            x.step(0);
            return x.fastest(id);
        });
        due.range("19, id, no events", 0, FunnelFold.NONE, 19, FunnelFold.NONE, id -> sixSteps().fastest(id));
        due.is("19, one step: the same event", add(Stores.withSteps(1), 1, 0, 1, 50).fastest(0), 0);
        due.is("19, the most", withWindow(add(Stores.withSteps(1, 2), 1, 0, 2, 1999), 1999).fastest(0), 1999);
        due.is("19, at one time", add(Stores.withSteps(1, 2), 1, 5, 2, 5).fastest(0), 0);
        FunnelFold full = Stores.full(19);
        Stores.steps(full, 4, 5, 6, 7, 8, 9);
        due.is("19, 250 events, 6 steps", full.fastest(19), 40);
        full.merge(18, 19);
        due.is("19, the lower id of a user, without events itself", full.fastest(18), 40);
        due.is("19, the higher id of a user, with all 250 events", full.fastest(19), 40);
        due.is("19, the first choice", add(Stores.withSteps(1, 2), 1, 0, 2, 3, 1, 50, 2, 54).fastest(0), 3);
        due.is("19, the last choice", add(Stores.withSteps(1, 2), 1, 0, 2, 4, 1, 1996, 2, 1999).fastest(0), 3);
    }

    /** Promise 19: NONE if there is no choice, or the funnel has no steps. */
    private static void fastestOfNone() {
        due.is("19, no steps, 250 events", Stores.full(0).fastest(0), FunnelFold.NONE);
        due.is("19, no steps, no events", new FunnelFold().fastest(0), FunnelFold.NONE);
        due.is("19, not the last step", add(Stores.withSteps(1, 2), 1, 0).fastest(0), FunnelFold.NONE);
        due.is("19, not the first step", add(Stores.withSteps(1, 2), 2, 0).fastest(0), FunnelFold.NONE);
        due.is("19, the steps the other way round", add(Stores.withSteps(1, 2), 2, 0, 1, 1).fastest(0), FunnelFold.NONE);
        due.is("19, 250 events of another user", withSteps(Stores.full(1), 0).fastest(0), FunnelFold.NONE);
    }

    private static FunnelFold withSteps(FunnelFold x, int... kinds) {
        Stores.steps(x, kinds);
        return x;
    }

    /** Promise 19: over the choices by which it passes the steps, and the window is a part of passing. */
    private static void fastestAtTheWindow() {
        due.is("19, just the window", add(Stores.withSteps(1, 2), 1, 0, 2, 100).fastest(0), 100);
        due.is("19, one more than the window", add(Stores.withSteps(1, 2), 1, 0, 2, 101).fastest(0), FunnelFold.NONE);
        FunnelFold x = add(Stores.withSteps(1, 2), 1, 0, 2, 101);
        due.is("19, a window that is set later", withWindow(x, 101).fastest(0), 101);
        due.is("19, and taken back", withWindow(x, 100).fastest(0), FunnelFold.NONE);
        due.is("19, the least window, at one time", withWindow(add(Stores.withSteps(1, 2), 1, 7, 2, 7), 0).fastest(0), 0);
        due.is("19, the least window, one later",
            withWindow(add(Stores.withSteps(1, 2), 1, 7, 2, 8), 0).fastest(0), FunnelFold.NONE);
    }

    /** Terms: if there are such events, whichever they are, also behind or ahead of others of these kinds. */
    private static void choicesAmongManyEvents() {
        int[] secondFirst = {1, 0, 2, 10, 1, 20, 3, 30};
        due.is("17, another first event between", add(Stores.withSteps(1, 2, 3), secondFirst).depth(0), 3);
        due.is("19, another first event between", add(Stores.withSteps(1, 2, 3), secondFirst).fastest(0), 30);
        int[] secondLate = {1, 0, 2, 10, 3, 20, 1, 500};
        due.is("17, another first event behind all", add(Stores.withSteps(1, 2, 3), secondLate).depth(0), 3);
        int[] lateRow = {1, 0, 2, 90, 1, 150, 2, 200, 3, 250};
        due.is("17, only from the later first event", add(Stores.withSteps(1, 2, 3), lateRow).depth(0), 3);
        due.is("19, only from the later first event", add(Stores.withSteps(1, 2, 3), lateRow).fastest(0), 100);
        int[] skipped = {1, 0, 3, 5, 2, 10, 1, 11, 2, 12, 3, 13};
        due.is("17, a last event ahead of the second one", add(Stores.withSteps(1, 2, 3), skipped).depth(0), 3);
        due.is("19, a last event ahead of the second one", add(Stores.withSteps(1, 2, 3), skipped).fastest(0), 2);
        int[] shared = {1, 0, 2, 10, 1, 20, 2, 50, 1, 60};
        due.is("17, a kind for two steps, another between", add(Stores.withSteps(1, 2, 1), shared).depth(0), 3);
        due.is("19, a kind for two steps, another between", add(Stores.withSteps(1, 2, 1), shared).fastest(0), 20);
        due.is("19, an event that ends one choice begins another",
            add(Stores.withSteps(1, 2, 1), 1, 0, 2, 30, 1, 60, 2, 65, 1, 80).fastest(0), 20);
    }

    /** Terms: told from the events as they are; those of closed days are no others. */
    private static void closedDays() {
        FunnelFold x = add(Stores.withSteps(1, 2), 1, 95, 2, 105, 1, 1950, 2, 1999);
        Stores.close(x, 1);
        due.is("17, the first step on a closed day", x.depth(0), 2);
        due.is("18, the first step on a closed day", x.passed(1), 1);
        due.is("19, the first step on a closed day", x.fastest(0), 10);
        Stores.close(x, 19);
        due.is("17, all days closed", x.depth(0), 2);
        due.is("18, all days closed", x.passed(1), 1);
        due.is("19, all days closed", x.fastest(0), 10);
        due.is("14, all days closed", x.step(3), 3);
        due.is("16, all days closed", x.window(5), 100);
    }
}
