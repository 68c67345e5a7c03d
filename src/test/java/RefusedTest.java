import java.util.ArrayList;
import java.util.List;
import java.util.function.Supplier;

/**
 * The terms: a call that throws changes nothing. Each refused call is made on one of two stores that are alike;
 * then all that can be told of the two must be the same. A call that only asks changes nothing either.
 */
public final class RefusedTest {
    private static final Due due = new Due("RefusedTest");
    private static final int LEAST = Integer.MIN_VALUE;
    private static final int GREATEST = Integer.MAX_VALUE;
    // Asked of a store in parts, each of a store made anew, as no store takes more than 512 calls.
    private static final int PARTS = 23;

    private final String name;
    private final Supplier<FunnelFold> made;
    private final List<List<String>> unchanged = new ArrayList<>();

    private RefusedTest(String name, Supplier<FunnelFold> made) {
        this.name = name;
        this.made = made;
        for (int part = 0; part < PARTS; part++) {
            unchanged.add(told(made.get(), part));
        }
    }

    public static void main(String[] args) {
        RefusedTest empty = new RefusedTest("a new store", FunnelFold::new);
        empty.refuseArguments();
        empty.refuseIndexes(0, 0, 0, 0, 0);
        empty.ask();
        RefusedTest usual = new RefusedTest("a store in use", RefusedTest::usual);
        usual.refuseArguments();
        usual.refuseIndexes(6, 4, 3, 4, 2);
        usual.refuse("IllegalStateException", new Call("event", 3, 0, 199));
        usual.refuse("IllegalStateException", new Call("event", 3, 0, 0));
        usual.ask();
        RefusedTest full = new RefusedTest("250 events, 6 steps", RefusedTest::full);
        full.refuseArguments();
        full.refuseIndexes(26, 26, 6, 10, 0);
        full.refuse("IllegalStateException", new Call("event", 3, 0, 1999));
        full.refuse("IllegalStateException", new Call("event", 0, 9, 0));
        full.refuse("IllegalStateException", new Call("step", 0));
        full.refuse("IllegalStateException", new Call("step", 9));
        full.ask();
        RefusedTest closed = new RefusedTest("all days closed", RefusedTest::closed);
        closed.refuseArguments();
        closed.refuseIndexes(6, 4, 3, 4, 20);
        closed.refuse("IllegalStateException", new Call("closeDay"));
        closed.refuse("IllegalStateException", new Call("event", 3, 0, 1999));
        closed.ask();
        due.end();
    }

    /** Two closed days, three steps, 11 events of four users; the user 3 has 6 of them in four sessions. */
    private static FunnelFold usual() {
        FunnelFold x = new FunnelFold();
        x.gap(20);
        x.window(250);
        Stores.add(x, 3, 50, 120, 60, 1999);
        x.event(17, 1, 61);
        x.closeDay();
        x.merge(3, 17);
        x.event(17, 2, 300);
        x.closeDay();
        x.event(8, 0, 400);
        x.event(8, 1, 410);
        x.event(5, 0, 410);
        x.event(0, 4, 1000);
        x.event(5, 1, 410);
        Stores.steps(x, 0, 1, 2);
        return x;
    }

    private static FunnelFold closed() {
        FunnelFold x = usual();
        Stores.close(x, 18);
        return x;
    }

    /** 250 events of ten users, of 25 or 26 events and as many sessions; the ids 3 and 13 are one of them. */
    private static FunnelFold full() {
        FunnelFold x = new FunnelFold();
        x.gap(1);
        for (int number = 0; number < 249; number++) {
            x.event(number % 10 == 3 && number > 99 ? 13 : number % 10, number / 10 % 10, 8 * number);
        }
        x.event(0, 5, 1999);
        x.merge(3, 13);
        x.window(1999);
        Stores.steps(x, 0, 1, 2, 3, 4, 5);
        return x;
    }

    /** All that is told of a store: of the user of an id, and then of the days, the users and the settings. */
    private static List<String> told(FunnelFold x, int part) {
        List<String> answers = new ArrayList<>();
        for (Call call : questions(x, part)) {
            answers.add(call + " = " + call.on(x));
        }
        return answers;
    }

    private static List<Call> questions(FunnelFold x, int part) {
        List<Call> calls = new ArrayList<>();
        if (part < 20) {
            ofUser(x, part, calls);
        } else if (part == 20) {
            ofDays(calls);
        } else if (part == 21) {
            ofAllUsers(calls);
        } else {
            ofSettings(calls);
        }
        return calls;
    }

    private static void ofUser(FunnelFold x, int id, List<Call> calls) {
        for (String name : new String[] {"userOf", "eventsOf", "sessions", "depth", "fastest", "cohort"}) {
            calls.add(new Call(name, id));
        }
        int events = x.eventsOf(id);
        for (int place = 0; place < events; place++) {
            calls.add(new Call("eventAt", id, place));
        }
        int sessions = x.sessions(id);
        for (int session = 0; session < sessions; session++) {
            calls.add(new Call("sessionEvents", id, session));
            calls.add(new Call("sessionStart", id, session));
            calls.add(new Call("sessionLength", id, session));
        }
    }

    private static void ofDays(List<Call> calls) {
        calls.add(new Call("closedDays"));
        for (int day = 0; day < 20; day++) {
            calls.add(new Call("active", day));
            calls.add(new Call("activeOnEach", 0, day));
            calls.add(new Call("retained", 0, day));
            calls.add(new Call("keptActive", day));
            calls.add(new Call("keptNew", day));
            calls.add(new Call("keptSessions", day));
        }
    }

    private static void ofAllUsers(List<Call> calls) {
        calls.add(new Call("users"));
        calls.add(new Call("events"));
        for (int step = 0; step < 6; step++) {
            calls.add(new Call("passed", step));
        }
        for (int rank = 0; rank < 20; rank++) {
            calls.add(new Call("ranked", FunnelFold.EVENTS, rank));
            calls.add(new Call("ranked", FunnelFold.SESSIONS, rank));
            calls.add(new Call("ranked", FunnelFold.DEPTH, rank));
        }
    }

    /** What can be seen only by changing it. */
    private static void ofSettings(List<Call> calls) {
        calls.add(new Call("gap", 100));
        calls.add(new Call("window", 0));
        calls.add(new Call("step", 0));
        calls.add(new Call("event", 19, 0, 1999));
        calls.add(new Call("closeDay"));
        calls.add(new Call("merge", 19, 17));
    }

    private void refuse(String exception, Call call) {
        for (int part = 0; part < PARTS; part++) {
            FunnelFold x = made.get();
            due.same(name + ": " + call, call.on(x), "throws." + exception);
            List<String> told = told(x, part);
            List<String> before = unchanged.get(part);
            due.same(name + ": answers, part " + part + ", after " + call,
                String.valueOf(told.size()), String.valueOf(before.size()));
            for (int at = 0; at < Math.min(told.size(), before.size()); at++) {
                due.same(name + ": after " + call, told.get(at), before.get(at));
            }
        }
    }

    /** Each argument that has a range, with the values just outside and the farthest ones. */
    private void refuseArguments() {
        for (int wrong : new int[] {-1, 20, LEAST, GREATEST}) {
            refuseArgument(new Call("event", wrong, 0, 1999));
            refuseArgument(new Call("merge", wrong, 3));
            refuseArgument(new Call("merge", 5, wrong));
            for (String name : new String[] {"userOf", "eventsOf", "sessions", "depth", "fastest", "cohort", "active"}) {
                refuseArgument(new Call(name, wrong));
            }
            for (String name : new String[] {"eventAt", "sessionEvents", "sessionStart", "sessionLength"}) {
                refuseArgument(new Call(name, wrong, 0));
            }
            refuseArgument(new Call("retained", wrong, 0));
            refuseArgument(new Call("retained", 0, wrong));
            refuseArgument(new Call("activeOnEach", wrong, 19));
            refuseArgument(new Call("activeOnEach", 0, wrong));
        }
        for (int wrong : new int[] {-1, 10, LEAST, GREATEST}) {
            refuseArgument(new Call("event", 5, wrong, 1999));
            refuseArgument(new Call("step", wrong));
        }
        for (int wrong : new int[] {-1, 2000, LEAST, GREATEST}) {
            refuseArgument(new Call("event", 5, 0, wrong));
            refuseArgument(new Call("window", wrong));
        }
        for (int wrong : new int[] {0, 501, LEAST, GREATEST}) {
            refuseArgument(new Call("gap", wrong));
        }
        for (int wrong : new int[] {-1, 3, LEAST, GREATEST}) {
            refuseArgument(new Call("ranked", wrong, 0));
        }
        refuseArgument(new Call("retained", 19, 1));
        refuseArgument(new Call("activeOnEach", 19, 18));
    }

    private void refuseArgument(Call call) {
        refuse("IllegalArgumentException", call);
    }

    /** Each index of which there are so many: events and sessions of the user 3, steps, users and closed days. */
    private void refuseIndexes(int events, int sessions, int steps, int users, int days) {
        refuseIndex(events, "eventAt", 3);
        refuseIndex(sessions, "sessionEvents", 3);
        refuseIndex(sessions, "sessionStart", 3);
        refuseIndex(sessions, "sessionLength", 3);
        refuseIndex(steps, "passed");
        for (int by = 0; by < 3; by++) {
            refuseIndex(users, "ranked", by);
        }
        refuseIndex(days, "keptActive");
        refuseIndex(days, "keptNew");
        refuseIndex(days, "keptSessions");
    }

    private void refuseIndex(int count, String name, int... ahead) {
        for (int wrong : new int[] {count, -1, LEAST, GREATEST}) {
            refuse("IndexOutOfBoundsException",
                ahead.length == 0 ? new Call(name, wrong) : new Call(name, ahead[0], wrong));
        }
    }

    /** All questions of a part are asked twice: the second time they answer alike, and nothing has changed. */
    private void ask() {
        for (int part = 0; part < PARTS - 1; part++) {
            FunnelFold x = made.get();
            told(x, part);
            due.same(name + ": asked once more, part " + part,
                told(x, part).toString(), unchanged.get(part).toString());
            FunnelFold y = made.get();
            told(y, part);
            due.same(name + ": the settings, after all questions of the part " + part,
                told(y, PARTS - 1).toString(), unchanged.get(PARTS - 1).toString());
        }
    }
}
