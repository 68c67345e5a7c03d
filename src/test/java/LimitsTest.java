/** The limits of the document all at once: 250 events of one user, 6 steps, 20 closed days, 512 calls. */
public final class LimitsTest {
    private static final Due due = new Due("LimitsTest");

    public static void main(String[] args) {
        fullStore();
        callsThatThrowChangeNothing();
        due.end();
    }

    /** 250 events, 8 minutes apart, the last one at 1992: days 0 to 19, of the user 19 and then of 0. */
    private static FunnelFold full() {
        FunnelFold x = new FunnelFold();
        for (int number = 0; number < 250; number++) {
            x.event(19, number % 10, 8 * number);
        }
        for (int kind = 0; kind < 6; kind++) {
            x.step(kind);
        }
        x.merge(0, 19);
        return x;
    }

    private static void fullStore() {
        FunnelFold x = full();
        due.illegalState("event", () -> x.event(0, 0, 1999));
        due.illegalState("step", () -> x.step(0));
        due.is("users", x.users(), 1);
        due.is("eventsOf(19)", x.eventsOf(19), 250);
        due.is("eventAt(19, 249)", x.eventAt(19, 249), 249);
        due.outOfBounds("eventAt(19, 250)", () -> x.eventAt(19, 250));
        due.is("sessionEvents(19, 0)", x.sessionEvents(19, 0), 250);
        due.is("sessionLength(19, 0)", x.sessionLength(19, 0), 1992);
        x.gap(7);
        due.is("sessions(19), gap 7", x.sessions(19), 250);
        due.is("sessionEvents(19, 249)", x.sessionEvents(19, 249), 1);
        due.is("sessionStart(19, 249)", x.sessionStart(19, 249), 1992);
        due.is("sessionLength(19, 249)", x.sessionLength(19, 249), 0);
        due.outOfBounds("sessionEvents(19, 250)", () -> x.sessionEvents(19, 250));
        due.outOfBounds("sessionStart(19, 250)", () -> x.sessionStart(19, 250));
        due.outOfBounds("sessionLength(19, 250)", () -> x.sessionLength(19, 250));
        due.is("depth(19)", x.depth(19), 6);
        due.is("passed(5)", x.passed(5), 1);
        due.is("fastest(19)", x.fastest(19), 40);
        due.is("cohort(19)", x.cohort(19), 0);
        due.is("retained(0, 19)", x.retained(0, 19), 1);
        due.is("activeOnEach(0, 19)", x.activeOnEach(0, 19), 1);
        for (int by = 0; by < 3; by++) {
            int measure = by;
            due.is("ranked(" + by + ", 0)", x.ranked(by, 0), 0);
            due.outOfBounds("ranked(" + by + ", 1)", () -> x.ranked(measure, 1));
        }
        for (int day = 0; day < 20; day++) {
            due.is("closeDay", x.closeDay(), day);
        }
        due.illegalState("closeDay, all closed", () -> x.closeDay());
        due.is("keptActive(19)", x.keptActive(19), 1);
        due.is("keptNew(0)", x.keptNew(0), 1);
        due.is("keptNew(19)", x.keptNew(19), 0);
        // the 12 events of the day 19: 1904, 1912 and so on to 1992
        due.is("keptSessions(19), gap 7", x.keptSessions(19), 12);
    }

    private static String told(FunnelFold x) {
        StringBuilder text = new StringBuilder();
        text.append(x.events()).append(' ').append(x.users()).append(' ').append(x.closedDays());
        for (int id = 0; id < 20; id += 19) {
            text.append(' ').append(x.userOf(id)).append(' ').append(x.eventsOf(id));
            text.append(' ').append(x.sessions(id)).append(' ').append(x.depth(id));
            text.append(' ').append(x.fastest(id)).append(' ').append(x.cohort(id));
        }
        for (int day = 0; day < 20; day++) {
            text.append(' ').append(x.active(day));
        }
        return text.toString();
    }

    private static void callsThatThrowChangeNothing() {
        FunnelFold x = full();
        x.closeDay();
        String before = told(x);
        due.illegalArgument("event(20, 0, 500)", () -> x.event(20, 0, 500));
        due.illegalState("event(0, 0, 50)", () -> x.event(0, 0, 50));
        due.illegalArgument("merge(1, 20)", () -> x.merge(1, 20));
        due.illegalArgument("gap(0)", () -> x.gap(0));
        due.illegalArgument("step(10)", () -> x.step(10));
        due.illegalState("step(0)", () -> x.step(0));
        due.illegalArgument("window(2000)", () -> x.window(2000));
        due.outOfBounds("eventAt(0, 250)", () -> x.eventAt(0, 250));
        due.outOfBounds("ranked(0, 1)", () -> x.ranked(0, 1));
        due.outOfBounds("keptNew(1)", () -> x.keptNew(1));
        due.same("all that is told after refusals", told(x), before);
        due.is("gap(30) after refusals", x.gap(30), 30);
        due.is("window(100) after refusals", x.window(100), 100);
    }
}
