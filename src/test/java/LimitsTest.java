/** An object is used for at most 512 calls, whichever they are: the last of them answers like the first. */
public final class LimitsTest {
    private static final Due due = new Due("LimitsTest");
    private static final int CALLS = 512;

    public static void main(String[] args) {
        allLimitsAtOnce();
        the512thCallAsks();
        the512thCallChanges();
        the512thCallIsRefused();
        due.end();
    }

    /** 250 events, 6 steps, 20 closed days and one user of 20 ids: 295 calls that change something. */
    private static FunnelFold atAllLimits() {
        FunnelFold x = Stores.full(19);
        Stores.steps(x, 0, 1, 2, 3, 4, 5);
        Stores.mergeAll(x);
        Stores.close(x, 20);
        return x;
    }

    private static void allLimitsAtOnce() {
        FunnelFold x = atAllLimits();
        due.illegalState("event, full and closed", () -> x.event(0, 0, 1999));
        due.illegalState("step, full", () -> x.step(0));
        due.illegalState("closeDay, all closed", () -> x.closeDay());
        due.is("users", x.users(), 1);
        due.is("events", x.events(), 250);
        due.is("eventAt(19, 249)", x.eventAt(19, 249), 249);
        due.is("sessionEvents(19, 0)", x.sessionEvents(19, 0), 250);
        due.is("depth(19)", x.depth(19), 6);
        due.is("passed(5)", x.passed(5), 1);
        due.is("fastest(19)", x.fastest(19), 40);
        due.is("cohort(19)", x.cohort(19), 0);
        due.is("retained(0, 19)", x.retained(0, 19), 1);
        due.is("activeOnEach(0, 19)", x.activeOnEach(0, 19), 1);
        due.is("ranked(2, 0)", x.ranked(2, 0), 0);
        due.is("keptActive(19)", x.keptActive(19), 1);
        due.is("keptNew(0)", x.keptNew(0), 1);
        due.is("keptSessions(0)", x.keptSessions(0), 1);
    }

    private static void the512thCallAsks() {
        FunnelFold x = new FunnelFold();
        for (int number = 0; number < 250; number++) {
            x.event(7, 0, 1999 - number);
        }
        for (int call = 250; call < CALLS - 1; call++) {
            due.is("call " + (call + 1) + ": eventAt", x.eventAt(7, call - 250 < 250 ? call - 250 : 0),
                call - 250 < 250 ? 249 - (call - 250) : 249);
        }
        due.is("call 512: sessionEvents", x.sessionEvents(7, 0), 250);
    }

    private static void the512thCallChanges() {
        FunnelFold gaps = new FunnelFold();
        FunnelFold windows = new FunnelFold();
        FunnelFold merges = new FunnelFold();
        FunnelFold steps = new FunnelFold();
        for (int call = 1; call <= CALLS; call++) {
            String label = "call " + call + ": ";
            due.is(label + "gap", gaps.gap(call % 500 + 1), call == 1 ? 30 : (call - 1) % 500 + 1);
            due.is(label + "window", windows.window(call), call == 1 ? 100 : call - 1);
            due.is(label + "merge", merges.merge(call % 20, (call + 1) % 20), lowestAfter(call));
            if (call % 7 == 0) {
                steps.clearFunnel();
            } else {
                due.is(label + "step", steps.step(call % 10), call % 7);
            }
        }
    }

    /** The ids are merged in their order, from 1 and 2 on; the 19. call brings in the id 0. */
    private static int lowestAfter(int call) {
        return call < 19 ? 1 : 0;
    }

    private static void the512thCallIsRefused() {
        FunnelFold full = new FunnelFold();
        for (int call = 1; call <= CALLS; call++) {
            int number = call - 1;
            if (call <= 250) {
                due.is("call " + call + ": event", full.event(number % 20, 0, 5), number);
            } else {
                due.illegalState("call " + call + ": event", () -> full.event(0, 0, 5));
            }
        }
        FunnelFold closed = new FunnelFold();
        for (int call = 1; call <= CALLS; call++) {
            if (call <= 20) {
                due.is("call " + call + ": closeDay", closed.closeDay(), call - 1);
            } else {
                due.illegalState("call " + call + ": closeDay", () -> closed.closeDay());
            }
        }
        FunnelFold wrong = new FunnelFold();
        for (int call = 1; call <= CALLS; call++) {
            due.illegalArgument("call " + call + ": userOf", () -> wrong.userOf(20));
        }
    }
}
