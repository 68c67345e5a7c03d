import java.util.ArrayList;
import java.util.Arrays;
import java.util.List;
import java.util.function.Supplier;

/**
 * A call that changes something changes nothing else, and one that only asks changes nothing: settings, users, events
 * and kept figures stay. Each call is made on a store; what it does not touch is then told as by a store that is
 * alike and has no such call.
 */
public final class StaysTest {
    private static final Due due = new Due("StaysTest");

    // What each kind of change touches, for all users and days; a call that ranks has its measure behind its name.
    private static final String NOTHING = "";
    private static final String SESSIONS = "sessions sessionEvents sessionStart sessionLength ranked1";
    private static final String FUNNEL = "depth fastest passed ranked2";
    private static final String USERS = "users passed ranked0 ranked1 ranked2 retained active activeOnEach";
    // What an event or a merge touches, for the ids of its users.
    private static final List<String> OF_A_USER = Arrays.asList("eventsOf", "eventAt", "sessions", "sessionEvents",
        "sessionStart", "sessionLength", "depth", "fastest", "cohort");

    /** A call, the names of all that it may change, and the ids of the users whose answers it may change. */
    private record Change(Call call, String names, int... ids) {
        boolean mayChange(Call question) {
            return Arrays.asList(names.split(" ")).contains(named(question))
                || OF_A_USER.contains(question.name()) && isOf(ids, question);
        }

        private static String named(Call question) {
            return question.name().equals("ranked") ? "ranked" + question.arguments()[0] : question.name();
        }

        private static boolean isOf(int[] ids, Call question) {
            return Arrays.stream(ids).anyMatch(id -> id == question.arguments()[0]);
        }
    }

    public static void main(String[] args) {
        theStoreInUse();
        changeSettings("a new store", FunnelFold::new);
        changeSettings("a store in use", Stores::inUse);
        changeEventsAndUsers("a new store", FunnelFold::new);
        changeEventsAndUsers("a store in use", Stores::inUse);
        changeNothing();
        askAll("a store in use", Stores::inUse);
        askAll("all days closed", Stores::allClosed);
        askAll("250 events, 6 steps", Stores::manyEvents);
        closeDays();
        clearFunnel();
        keptThroughAllCalls();
        due.end();
    }

    private static void theStoreInUse() {
        keptAsClosed("in use", Stores.inUse());
        due.is("in use: active(0)", Stores.inUse().active(0), 1 << 3);
        due.is("in use: active(1)", Stores.inUse().active(1), 1 << 3);
        due.is("in use: retained(0, 0)", Stores.inUse().retained(0, 0), 1);
        due.is("in use: retained(1, 0)", Stores.inUse().retained(1, 0), 0);
        due.is("in use: sessions(17)", Stores.inUse().sessions(17), 6);
        due.is("in use: depth(3)", Stores.inUse().depth(3), 3);
        due.is("in use: fastest(3)", Stores.inUse().fastest(3), 170);
    }

    /** Promises 25 and 27 to 29: the figures as they were when the days were closed. */
    private static void keptAsClosed(String when, FunnelFold x) {
        due.is("27, " + when + ": keptActive(0)", x.keptActive(0), 2);
        due.is("27, " + when + ": keptActive(1)", x.keptActive(1), 3);
        due.is("28, " + when + ": keptNew(0)", x.keptNew(0), 2);
        due.is("28, " + when + ": keptNew(1)", x.keptNew(1), 1);
        due.is("29, " + when + ": keptSessions(0)", x.keptSessions(0), 2);
        due.is("29, " + when + ": keptSessions(1)", x.keptSessions(1), 3);
    }

    private static void changeSettings(String store, Supplier<FunnelFold> made) {
        onlyThat(store, made, new Change(new Call("gap", 1), SESSIONS + " gap"));
        onlyThat(store, made, new Change(new Call("gap", 500), SESSIONS + " gap"));
        onlyThat(store, made, new Change(new Call("window", 0), FUNNEL + " window"));
        onlyThat(store, made, new Change(new Call("window", 1999), FUNNEL + " window"));
        onlyThat(store, made, new Change(new Call("step", 0), FUNNEL + " step"));
        onlyThat(store, made, new Change(new Call("step", 9), FUNNEL + " step"));
    }

    private static void changeEventsAndUsers(String store, Supplier<FunnelFold> made) {
        onlyThat(store, made, new Change(new Call("event", 17, 1, 310), USERS + " events event", 3, 8, 17));
        onlyThat(store, made, new Change(new Call("event", 5, 1, 200), USERS + " events event", 5));
        onlyThat(store, made, new Change(new Call("event", 19, 9, 1999), USERS + " events event", 19));
        onlyThat(store, made, new Change(new Call("merge", 5, 0), USERS + " userOf", 0, 5));
        onlyThat(store, made, new Change(new Call("merge", 19, 17), USERS + " userOf merge", 3, 8, 17, 19));
        onlyThat(store, made, new Change(new Call("merge", 12, 11), "userOf", 11, 12));
    }

    /** Settings that are set to what they are, and users that are one already. */
    private static void changeNothing() {
        onlyThat("a new store", FunnelFold::new, new Change(new Call("gap", 30), NOTHING));
        onlyThat("a new store", FunnelFold::new, new Change(new Call("window", 100), NOTHING));
        onlyThat("a new store", FunnelFold::new, new Change(new Call("merge", 7, 7), NOTHING));
        onlyThat("a store in use", Stores::inUse, new Change(new Call("gap", 20), NOTHING));
        onlyThat("a store in use", Stores::inUse, new Change(new Call("window", 250), NOTHING));
        onlyThat("a store in use", Stores::inUse, new Change(new Call("merge", 17, 8), NOTHING));
        onlyThat("a store in use", Stores::inUse, new Change(new Call("merge", 17, 17), NOTHING));
    }

    /** A call that only asks changes nothing. */
    private static void askAll(String store, Supplier<FunnelFold> made) {
        for (Call ask : asks(3, 0)) {
            onlyThat(store, made, new Change(ask, NOTHING));
        }
        for (Call ask : asks(0, 1)) {
            onlyThat(store, made, new Change(ask, NOTHING));
        }
    }

    /** Each call that only asks, for an id, and for a place, session, step, day, measure or rank. */
    private static Call[] asks(int id, int index) {
        return new Call[] {new Call("userOf", id), new Call("users"), new Call("events"), new Call("eventsOf", id),
            new Call("eventAt", id, index), new Call("sessions", id), new Call("sessionEvents", id, index),
            new Call("sessionStart", id, index), new Call("sessionLength", id, index), new Call("depth", id),
            new Call("passed", index), new Call("fastest", id), new Call("cohort", id),
            new Call("retained", index, index), new Call("active", index), new Call("activeOnEach", index, 19),
            new Call("ranked", FunnelFold.EVENTS, index), new Call("ranked", FunnelFold.SESSIONS, index),
            new Call("ranked", FunnelFold.DEPTH, index), new Call("closedDays"), new Call("keptActive", index),
            new Call("keptNew", index), new Call("keptSessions", index)};
    }

    private static void closeDays() {
        Change close = new Change(new Call("closeDay"), "closedDays closeDay keptActive keptNew keptSessions");
        onlyThat("a new store", FunnelFold::new, close);
        onlyThat("a store in use", Stores::inUse, close);
        FunnelFold x = Stores.inUse();
        x.closeDay();
        keptAsClosed("another day closed since", x);
    }

    private static void clearFunnel() {
        Change clear = new Change(new Call("clearFunnel"), FUNNEL + " step");
        onlyThat("a new store", FunnelFold::new, clear);
        onlyThat("a store in use", Stores::inUse, clear);
    }

    private static void onlyThat(String store, Supplier<FunnelFold> made, Change change) {
        for (int part = 0; part < Told.PARTS; part++) {
            List<Call> asked = untouched(change, made.get(), part);
            FunnelFold changed = made.get();
            change.call().on(changed);
            compare(store + ", " + change.call(), Told.answers(changed, asked), Told.answers(made.get(), asked));
        }
    }

    private static List<Call> untouched(Change change, FunnelFold x, int part) {
        List<Call> asked = new ArrayList<>();
        for (Call question : Told.questions(x, part)) {
            if (!change.mayChange(question)) {
                asked.add(question);
            }
        }
        return asked;
    }

    private static void compare(String change, List<String> got, List<String> want) {
        for (int at = 0; at < want.size(); at++) {
            due.same(change + ", what it does not touch", got.get(at), want.get(at));
        }
    }

    /** One call after the other on one store, of each kind; the figures of the closed days stay through all. */
    private static void keptThroughAllCalls() {
        FunnelFold x = Stores.inUse();
        List<Call> calls = new ArrayList<>();
        calls.addAll(Arrays.asList(new Call("event", 17, 0, 200), new Call("event", 4, 0, 200),
            new Call("merge", 4, 0), new Call("gap", 500), new Call("step", 5), new Call("window", 1),
            new Call("closeDay")));
        calls.addAll(Arrays.asList(asks(3, 0)));
        calls.addAll(Arrays.asList(new Call("clearFunnel"), new Call("merge", 0, 3), new Call("gap", 1),
            new Call("closeDay")));
        for (Call call : calls) {
            call.on(x);
            keptAsClosed("after " + call, x);
        }
    }
}
