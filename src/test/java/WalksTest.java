import java.util.function.IntSupplier;

/** Runs of 512 calls on a FunnelFold and on a PlainStore, which must answer alike. */
public final class WalksTest {
    private static final Due due = new Due("WalksTest");
    private static final int WALKS = 360;
    private static final int CALLS = 512;

    private final FunnelFold x = new FunnelFold();
    private final PlainStore y = new PlainStore();
    private final String name;
    private final int ids;
    private final int kinds;
    private final int times;
    private final int eventsInHundred;
    private long seed;
    private int calls = 0;

    private WalksTest(int walk) {
        name = "walk " + walk + ": ";
        seed = walk * 7919L + 17;
        ids = new int[] {20, 4, 8, 1}[walk % 4];
        kinds = new int[] {3, 10, 2, 1, 5}[walk % 5];
        times = new int[] {2000, 300, 120, 2000, 1000, 20}[walk / 4 % 6];
        eventsInHundred = new int[] {30, 60, 90}[walk / 2 % 3];
    }

    public static void main(String[] args) {
        for (int walk = 0; walk < WALKS; walk++) {
            new WalksTest(walk).go();
        }
        due.end();
    }

    private void go() {
        while (calls < CALLS) {
            if (below(100) < eventsInHundred && calls < 400) {
                int id = some(ids);
                int kind = some(kinds);
                int time = Math.min(some(times) + 100 * y.closedDays(), 2000);
                same("event(" + id + ", " + kind + ", " + time + ")",
                    () -> x.event(id, kind, time), () -> y.event(id, kind, time));
            } else {
                other(below(32));
            }
        }
    }

    /** A number below the bound, from the walk's own row of numbers: the same in each run. */
    private int below(int bound) {
        seed = seed * 6364136223846793005L + 1442695040888963407L;
        return (int) ((seed >>> 33) % bound);
    }

    /** Mostly a number below the bound, now and then one just outside or far off. */
    private int some(int bound) {
        int chance = below(120);
        if (chance == 0) {
            return -1;
        }
        if (chance == 1) {
            return bound;
        }
        if (chance == 2) {
            return below(2) == 0 ? Integer.MAX_VALUE : Integer.MIN_VALUE;
        }
        return below(bound);
    }

    private void other(int call) {
        int id = some(20);
        int small = some(1 + below(12));
        int day = some(20);
        switch (call) {
            case 0, 1 -> settings(id, small, day);
            case 2 -> same("userOf " + id, () -> x.userOf(id), () -> y.userOf(id));
            case 3 -> same("users", () -> x.users(), () -> y.users());
            case 4 -> same("events", () -> x.events(), () -> y.events());
            case 5 -> same("eventsOf " + id, () -> x.eventsOf(id), () -> y.eventsOf(id));
            case 6, 7 -> same("eventAt " + id + " " + small, () -> x.eventAt(id, small), () -> y.eventAt(id, small));
            case 8 -> same("sessions " + id, () -> x.sessions(id), () -> y.sessions(id));
            case 9 -> same("sessionEvents " + id + " " + small,
                () -> x.sessionEvents(id, small), () -> y.sessionEvents(id, small));
            case 10 -> same("sessionStart " + id + " " + small,
                () -> x.sessionStart(id, small), () -> y.sessionStart(id, small));
            case 11 -> same("sessionLength " + id + " " + small,
                () -> x.sessionLength(id, small), () -> y.sessionLength(id, small));
            case 12, 13, 14 -> same("depth " + id, () -> x.depth(id), () -> y.depth(id));
            case 15, 16 -> same("passed " + small, () -> x.passed(small), () -> y.passed(small));
            case 17, 18 -> same("fastest " + id, () -> x.fastest(id), () -> y.fastest(id));
            case 19 -> same("cohort " + id, () -> x.cohort(id), () -> y.cohort(id));
            case 20 -> same("retained " + day + " " + small,
                () -> x.retained(day, small), () -> y.retained(day, small));
            case 21 -> same("active " + day, () -> x.active(day), () -> y.active(day));
            case 22 -> {
                int to = below(3) == 0 ? day : day + below(4);
                same("activeOnEach " + day + " " + to, () -> x.activeOnEach(day, to), () -> y.activeOnEach(day, to));
            }
            case 23, 24, 25 -> {
                int by = some(3);
                same("ranked " + by + " " + small, () -> x.ranked(by, small), () -> y.ranked(by, small));
            }
            case 26 -> same("closedDays", () -> x.closedDays(), () -> y.closedDays());
            case 27 -> kept(some(y.closedDays() + 1));
            default -> kept(day);
        }
    }

    private void settings(int id, int small, int day) {
        int minutes = below(2) == 0 ? some(60) : some(2000);
        switch (below(7)) {
            case 0 -> same("merge " + id + " " + day, () -> x.merge(id, day), () -> y.merge(id, day));
            case 1 -> same("gap " + minutes, () -> x.gap(minutes), () -> y.gap(minutes));
            case 2 -> same("window " + minutes, () -> x.window(minutes), () -> y.window(minutes));
            case 3 -> same("closeDay", () -> x.closeDay(), () -> y.closeDay());
            case 4 -> same("clearFunnel", () -> cleared(), () -> y.clearFunnel());
            default -> {
                int count = Math.min(1 + below(4), CALLS - calls);
                for (int step = 0; step < count; step++) {
                    int kind = some(kinds);
                    same("step " + kind, () -> x.step(kind), () -> y.step(kind));
                }
            }
        }
    }

    private int cleared() {
        x.clearFunnel();
        return 0;
    }

    private void kept(int day) {
        switch (below(3)) {
            case 0 -> same("keptActive " + day, () -> x.keptActive(day), () -> y.keptActive(day));
            case 1 -> same("keptNew " + day, () -> x.keptNew(day), () -> y.keptNew(day));
            default -> same("keptSessions " + day, () -> x.keptSessions(day), () -> y.keptSessions(day));
        }
    }

    private void same(String call, IntSupplier got, IntSupplier want) {
        calls++;
        due.same(name + call, Due.outcome(got), Due.outcome(want));
    }
}
