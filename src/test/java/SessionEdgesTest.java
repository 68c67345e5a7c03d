import java.util.function.IntBinaryOperator;

/** Promises 9 to 13 and the terms of sessions at their boundaries, each sentence by a test of its own. */
public final class SessionEdgesTest {
    private static final Due due = new Due("SessionEdgesTest");

    public static void main(String[] args) {
        gapArgument();
        gapAnswers();
        gapAtItsMinute();
        gapIsFromTheEventAhead();
        sessionsEdges();
        sessionsAcrossDays();
        sessionEventsEdges();
        sessionStartEdges();
        sessionLengthEdges();
        noSuchSession();
        noSuchSessionAndNoId();
        due.end();
    }

    private static FunnelFold withGap(FunnelFold x, int minutes) {
        x.gap(minutes);
        return x;
    }

    private static FunnelFold merged(FunnelFold x, int id, int other) {
        x.merge(id, other);
        return x;
    }

    /** Promise 9: 1 to 500 minutes. */
    private static void gapArgument() {
        due.range("9, minutes", 1, 30, 500, 30, minutes -> new FunnelFold().gap(minutes));
        due.range("9, minutes, set", 1, 1, 500, 500, minutes -> {
            FunnelFold x = new FunnelFold();
            x.gap(minutes);
            return x.gap(77);
        });
    }

    private static void gapAnswers() {
        FunnelFold x = new FunnelFold();
        due.is("9, the gap before: the first one", x.gap(30), 30);
        due.is("9, the gap before: the same one", x.gap(500), 30);
        due.is("9, the gap before: the greatest one", x.gap(1), 500);
        due.is("9, the gap before: the least one", x.gap(2), 1);
        x.window(3);
        x.clearFunnel();
        due.is("9, the gap stays: another window, a cleared funnel", x.gap(4), 2);
    }

    /** Terms: a new session begins if the time is more than the gap later. */
    private static void gapAtItsMinute() {
        due.is("terms, the first gap: 30 later", Stores.at(0, 100, 130).sessions(0), 1);
        due.is("terms, the first gap: 31 later", Stores.at(0, 100, 131).sessions(0), 2);
        due.is("terms, the least gap: at one time", withGap(Stores.at(0, 5, 5), 1).sessions(0), 1);
        due.is("terms, the least gap: 1 later", withGap(Stores.at(0, 5, 6), 1).sessions(0), 1);
        due.is("terms, the least gap: 2 later", withGap(Stores.at(0, 5, 7), 1).sessions(0), 2);
        due.is("terms, the greatest gap: 500 later", withGap(Stores.at(0, 0, 500), 500).sessions(0), 1);
        due.is("terms, the greatest gap: 501 later", withGap(Stores.at(0, 0, 501), 500).sessions(0), 2);
        due.is("terms, the greatest gap: 1999 later", withGap(Stores.at(0, 0, 1999), 500).sessions(0), 2);
    }

    /** Terms: later than the event ahead of it, in order, of the same user. */
    private static void gapIsFromTheEventAhead() {
        due.is("terms, from the event ahead, not from the first one", Stores.at(0, 0, 30, 60, 90).sessions(0), 1);
        due.is("terms, ahead in order, not by the numbers", Stores.at(0, 60, 0, 30).sessions(0), 1);
        FunnelFold x = Stores.at(0, 0, 60);
        x.event(1, 0, 30);
        due.is("terms, ahead is no event of another user", x.sessions(0), 2);
        due.is("terms, ahead is an event of the same user, merged", merged(x, 0, 1).sessions(0), 1);
    }

    private static void sessionsEdges() {
        due.range("10, id", 0, 1, 19, 1, id -> Stores.allIdsAt(1999).sessions(id));
        due.range("10, id, no events", 0, 0, 19, 0, id -> new FunnelFold().sessions(id));
        due.is("terms, users without events: another has 250", Stores.full(5).sessions(4), 0);
        due.is("10, one event", Stores.at(8, 0).sessions(8), 1);
        due.is("10, 250 events, one session", Stores.full(5).sessions(5), 1);
        due.is("10, 250 events, the gap just as long", withGap(Stores.full(5), 8).sessions(5), 1);
        due.is("10, 250 events, 250 sessions", withGap(Stores.full(5), 7).sessions(5), 250);
        FunnelFold both = withGap(merged(Stores.full(5), 4, 5), 7);
        due.is("10, the lower id of a user, without events itself", both.sessions(4), 250);
        due.is("10, the higher id of a user, with all 250 events", both.sessions(5), 250);
    }

    private static void sessionsAcrossDays() {
        FunnelFold x = Stores.at(2, 99, 100);
        due.is("10, a session goes on behind its day", x.sessions(2), 1);
        Stores.close(x, 20);
        due.is("10, all days closed", x.sessions(2), 1);
        x.gap(1);
        due.is("10, all days closed: the length", x.sessionLength(2, 0), 1);
        due.is("10, all days closed: another gap counts", withGap(Stores.at(2, 97, 100), 2).sessions(2), 2);
    }

    private static void sessionEventsEdges() {
        due.range("11, id", 0, 1, 19, 1, id -> Stores.allIdsAt(0).sessionEvents(id, 0));
        due.places("11, session, the only one", 1, 2, 2, session -> Stores.at(3, 0, 30).sessionEvents(3, session));
        due.places("11, session, of two", 2, 2, 1, session -> Stores.at(3, 0, 30, 61).sessionEvents(3, session));
        due.places("11, session, with 250 events", 1, 250, 250, session -> Stores.full(3).sessionEvents(3, session));
        due.places("11, session, of 250", 250, 1, 1,
            session -> withGap(Stores.full(3), 7).sessionEvents(3, session));
        due.is("11, the session with the last event of 250", longLast().sessionEvents(3, 1), 249);
    }

    /** The first event is a session; the other 249 are the last one. */
    private static FunnelFold longLast() {
        FunnelFold x = Stores.at(3, 0);
        for (int number = 1; number < 250; number++) {
            x.event(3, 0, 1000 + number);
        }
        return x;
    }

    private static void sessionStartEdges() {
        due.range("12, id", 0, 1999, 19, 1999, id -> Stores.allIdsAt(1999).sessionStart(id, 0));
        due.places("12, session, the only one", 1, 0, 0, session -> Stores.at(3, 30, 0).sessionStart(3, session));
        due.places("12, session, of two", 2, 0, 1999, session -> Stores.at(3, 0, 30, 1999).sessionStart(3, session));
        due.places("12, session, of 250", 250, 0, 1992,
            session -> withGap(Stores.full(3), 7).sessionStart(3, session));
        due.is("12, the session with the last event of 250", longLast().sessionStart(3, 1), 1001);
    }

    private static void sessionLengthEdges() {
        due.range("13, id", 0, 0, 19, 0, id -> Stores.allIdsAt(7).sessionLength(id, 0));
        due.places("13, session, the only one", 1, 30, 30, session -> Stores.at(3, 30, 0).sessionLength(3, session));
        due.places("13, session, of two", 2, 30, 0, session -> Stores.at(3, 0, 30, 61).sessionLength(3, session));
        due.places("13, session, of 250", 250, 0, 0,
            session -> withGap(Stores.full(3), 7).sessionLength(3, session));
        due.is("13, one event", Stores.at(3, 1999).sessionLength(3, 0), 0);
        due.is("13, events at one time", Stores.at(3, 9, 9, 9).sessionLength(3, 0), 0);
        due.is("13, with 250 events", Stores.full(3).sessionLength(3, 0), 1992);
        due.is("13, the longest", withGap(Stores.at(3, 0, 500, 1000, 1500, 1999), 500).sessionLength(3, 0), 1999);
        due.is("13, the session with the last event of 250", longLast().sessionLength(3, 1), 248);
    }

    private static int ask(int which, FunnelFold x, int id, int session) {
        return which == 11 ? x.sessionEvents(id, session)
            : which == 12 ? x.sessionStart(id, session) : x.sessionLength(id, session);
    }

    /** Promises 11 to 13: refused if the user has not so many sessions. */
    private static void noSuchSession() {
        for (int promise = 11; promise <= 13; promise++) {
            int which = promise;
            due.noneOutside(which + ", session, no events", 0, session -> ask(which, new FunnelFold(), 3, session));
            due.noneOutside(which + ", session, 250 events of another user", 0,
                session -> ask(which, Stores.full(4), 3, session));
            due.outOfBounds(which + ", session, as many as events", () -> ask(which, Stores.at(3, 0, 1), 3, 1));
            due.outOfBounds(which + ", session, 250 events in one", () -> ask(which, Stores.full(3), 3, 249));
            due.outOfBounds(which + ", session, one less by a greater gap",
                () -> ask(which, withGap(Stores.at(3, 0, 100), 100), 3, 1));
            due.outOfBounds(which + ", session, by an id that was merged",
                () -> ask(which, merged(Stores.at(3, 0), 2, 3), 2, 1));
        }
    }

    /** Where two exceptions apply, the one that is listed first: IllegalArgumentException. */
    private static void noSuchSessionAndNoId() {
        for (int promise = 11; promise <= 13; promise++) {
            int which = promise;
            IntBinaryOperator onFull = (id, session) -> ask(which, Stores.full(0), id, session);
            due.refusedOutside(which + ", no events and id", 0, 19, id -> ask(which, new FunnelFold(), id, 0));
            due.refusedOutside(which + ", session -1 and id", 0, 19, id -> onFull.applyAsInt(id, -1));
            due.refusedOutside(which + ", session 1 of 1 and id", 0, 19, id -> onFull.applyAsInt(id, 1));
        }
    }
}
