import java.util.ArrayList;
import java.util.List;

/** All that can be told of a store, asked in parts, each of a store made anew: no store takes more than 512 calls. */
final class Told {
    /** The parts 0 to 19 are of the user of an id, then come the days, all users and the settings. */
    static final int PARTS = 23;
    static final int SETTINGS = PARTS - 1;
    private static final int DAYS = 20;
    private static final int ALL_USERS = 21;

    private Told() { }

    static List<Call> questions(FunnelFold x, int part) {
        List<Call> calls = new ArrayList<>();
        if (part < DAYS) {
            ofUser(x, part, calls);
        } else if (part == DAYS) {
            ofDays(calls);
        } else if (part == ALL_USERS) {
            ofAllUsers(calls);
        } else {
            ofSettings(calls);
        }
        return calls;
    }

    /** Each question with what a store answers. */
    static List<String> answers(FunnelFold x, List<Call> questions) {
        List<String> answers = new ArrayList<>();
        for (Call call : questions) {
            answers.add(call + " = " + call.on(x));
        }
        return answers;
    }

    private static void ofUser(FunnelFold x, int id, List<Call> calls) {
        for (String name : new String[] {"userOf", "eventsOf", "sessions", "depth", "fastest", "cohort"}) {
            calls.add(new Call(name, id));
        }
        int events = x.eventsOf(id);
        for (int place = 0; place < events; place++) {
            calls.add(new Call("eventAt", id, place));
        }
        int sessions = x.sessions(id);
        for (int session = 0; session < sessions; session++) {
            calls.add(new Call("sessionEvents", id, session));
            calls.add(new Call("sessionStart", id, session));
            calls.add(new Call("sessionLength", id, session));
        }
    }

    private static void ofDays(List<Call> calls) {
        for (int day = 0; day < 20; day++) {
            calls.add(new Call("keptActive", day));
            calls.add(new Call("keptNew", day));
            calls.add(new Call("keptSessions", day));
        }
        for (int day = 0; day < 20; day++) {
            calls.add(new Call("active", day));
            calls.add(new Call("activeOnEach", 0, day));
            calls.add(new Call("retained", 0, day));
        }
        calls.add(new Call("closedDays"));
    }

    private static void ofAllUsers(List<Call> calls) {
        calls.add(new Call("users"));
        calls.add(new Call("events"));
        for (int step = 0; step < 6; step++) {
            calls.add(new Call("passed", step));
        }
        for (int rank = 0; rank < 20; rank++) {
            calls.add(new Call("ranked", FunnelFold.EVENTS, rank));
            calls.add(new Call("ranked", FunnelFold.SESSIONS, rank));
            calls.add(new Call("ranked", FunnelFold.DEPTH, rank));
        }
    }

    /** What can be seen only by changing it. */
    private static void ofSettings(List<Call> calls) {
        calls.add(new Call("gap", 100));
        calls.add(new Call("window", 0));
        calls.add(new Call("step", 0));
        calls.add(new Call("event", 19, 0, 1999));
        calls.add(new Call("closeDay"));
        calls.add(new Call("merge", 19, 17));
    }
}
