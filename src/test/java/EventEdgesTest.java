/** Promises 1 to 8 and the terms of events and users at their boundaries, each sentence by a test of its own. */
public final class EventEdgesTest {
    private static final Due due = new Due("EventEdgesTest");

    public static void main(String[] args) {
        aNewStore();
        aNewStoreBesideAUsedOne();
        usersWithoutEvents();
        allIdsOfAUser();
        eventArguments();
        eventCount();
        eventDays();
        eventOnClosedDays();
        eventWithTwoExceptions();
        order();
        mergeArguments();
        mergeOfOneAndOfAll();
        mergeWhenFullOrClosed();
        userOfEdges();
        usersEdges();
        eventsEdges();
        eventsOfEdges();
        eventAtPlaces();
        eventAtOnClosedDays();
        eventAtWithTwoExceptions();
        due.end();
    }

    /** Promise 1: without events, no day closed, no steps; the terms give the gap, the window and the users. */
    private static void aNewStore() {
        due.is("1, no events: events", new FunnelFold().events(), 0);
        due.is("1, no events: users", new FunnelFold().users(), 0);
        due.is("1, no events: the first one is the number 0", new FunnelFold().event(7, 0, 0), 0);
        due.is("1, no day is closed: closedDays", new FunnelFold().closedDays(), 0);
        due.is("1, no day is closed: the first one closes", new FunnelFold().closeDay(), 0);
        due.outOfBounds("1, no steps: passed", () -> new FunnelFold().passed(0));
        due.is("1, no steps: the first one comes", new FunnelFold().step(0), 1);
        due.is("terms, the gap is 30 at first", new FunnelFold().gap(1), 30);
        due.is("terms, the window is 100 at first", new FunnelFold().window(1), 100);
    }

    /** Promise 1: so it is beside a store in use too, and that one stays as it is. */
    private static void aNewStoreBesideAUsedOne() {
        FunnelFold used = Stores.full(4);
        used.merge(4, 3);
        used.gap(7);
        used.closeDay();
        used.step(3);
        used.window(9);
        FunnelFold fresh = new FunnelFold();
        due.is("1, beside a used one: events", fresh.events(), 0);
        due.is("1, beside a used one: userOf", fresh.userOf(4), 4);
        due.is("1, beside a used one: closedDays", fresh.closedDays(), 0);
        due.is("1, beside a used one: step", fresh.step(0), 1);
        due.is("1, beside a used one: gap", fresh.gap(11), 30);
        due.is("1, beside a used one: window", fresh.window(12), 100);
        due.is("1, the used one stays: events", used.events(), 250);
        due.is("1, the used one stays: userOf", used.userOf(4), 3);
        due.is("1, the used one stays: sessions", used.sessions(4), 250);
        due.is("1, the used one stays: depth", used.depth(4), 1);
        due.is("1, the used one stays: closedDays", used.closedDays(), 1);
        due.is("1, the used one stays: keptSessions", used.keptSessions(0), 13);
        due.is("1, the used one stays: gap", used.gap(1), 7);
        due.is("1, the used one stays: window", used.window(1), 9);
    }

    /** Terms: users without events have no sessions, pass no step, and belong to no cohort. */
    private static void usersWithoutEvents() {
        for (int id = 0; id < 20; id++) {
            FunnelFold x = Stores.at((id + 1) % 20, 5, 6, 7);
            x.step(0);
            due.is("terms, no events, the user " + id + ": eventsOf", x.eventsOf(id), 0);
            due.is("terms, no events, the user " + id + ": sessions", x.sessions(id), 0);
            due.is("terms, no events, the user " + id + ": depth", x.depth(id), 0);
            due.is("terms, no events, the user " + id + ": fastest", x.fastest(id), FunnelFold.NONE);
            due.is("terms, no events, the user " + id + ": cohort", x.cohort(id), FunnelFold.NONE);
            due.is("terms, no events, all but " + (id + 1) % 20 + ": passed", x.passed(0), 1);
            due.is("terms, no events, all but " + (id + 1) % 20 + ": retained", x.retained(0, 0), 1);
        }
        for (int day = 0; day < 20; day++) {
            due.is("terms, no events, the day " + day + ": active", new FunnelFold().active(day), 0);
            due.is("terms, no events, the day " + day + ": retained", new FunnelFold().retained(day, 0), 0);
        }
    }

    /** Terms: what is asked for an id is told for its user. Only the id 10, neither least nor greatest, has events. */
    private static void allIdsOfAUser() {
        Call[] calls = {new Call("userOf", 0), new Call("eventsOf", 0), new Call("eventAt", 0, 2),
            new Call("sessions", 0), new Call("sessionEvents", 0, 1), new Call("sessionStart", 0, 1),
            new Call("sessionLength", 0, 1), new Call("depth", 0), new Call("fastest", 0), new Call("cohort", 0)};
        String[] answers = {"2", "4", "0", "2", "3", "700", "30", "2", "10", "5"};
        FunnelFold x = Stores.at(10, 720, 500, 730, 700);
        Stores.steps(x, 0, 0);
        x.window(25);
        for (int id = 3; id < 18; id++) {
            x.merge(id, 2);
        }
        for (int id = 2; id < 18; id++) {
            for (int at = 0; at < calls.length; at++) {
                int[] arguments = calls[at].arguments().clone();
                arguments[0] = id;
                Call call = new Call(calls[at].name(), arguments);
                due.same("terms, an id of a user: " + call, call.on(x), answers[at]);
            }
        }
        due.is("terms, an id just below those of a user", x.eventsOf(1), 0);
        due.is("terms, an id just above those of a user", x.eventsOf(18), 0);
    }

    /** Promise 2: an id 0 to 19, a kind 0 to 9, a time 0 to 1999. */
    private static void eventArguments() {
        due.range("2, id", 0, 1, 19, 1 << 19, id -> {
            FunnelFold x = new FunnelFold();
            x.event(id, 0, 0);
            return x.active(0);
        });
        for (int kind = 0; kind <= 9; kind++) {
            FunnelFold x = Stores.withSteps(kind);
            x.event(6, (kind + 1) % 10, 0);
            due.is("2, a kind that is not " + kind, x.depth(6), 0);
            x.event(6, kind, 0);
            due.is("2, the kind " + kind, x.depth(6), 1);
        }
        due.range("2, kind", 0, 0, 9, 0, kind -> new FunnelFold().event(0, kind, 0));
        due.range("2, time", 0, 0, 1999, 1999, time -> {
            FunnelFold x = new FunnelFold();
            x.event(0, 0, time);
            return x.sessionStart(0, 0);
        });
    }

    /** Terms and promise 2: at most 250 events, numbered from 0 in the order in which they come. */
    private static void eventCount() {
        FunnelFold x = new FunnelFold();
        for (int number = 0; number < 249; number++) {
            x.event(number % 20, number % 10, 1999 - 8 * number);
        }
        due.answers("2, the 250. event: its number", () -> x.event(5, 3, 1000), 249);
        due.illegalState("2, the 251. event", () -> x.event(5, 3, 1000));
        due.illegalState("2, the 251. event, at the last minute", () -> x.event(19, 9, 1999));
        due.illegalState("2, the 251. event, at the first minute", () -> x.event(0, 0, 0));
        due.is("2, refused when full: events", x.events(), 250);
        FunnelFold y = Stores.at(1, 150);
        y.closeDay();
        due.illegalArgument("2, refused: an id", () -> y.event(20, 0, 150));
        due.illegalState("2, refused: a closed day", () -> y.event(1, 0, 50));
        due.is("2, what is refused has no number", y.event(1, 0, 150), 1);
    }

    /** Terms: the day d has the minutes 100 * d to 100 * d + 99. */
    private static void eventDays() {
        for (int day = 0; day < 20; day++) {
            due.is("terms, the first minute of the day " + day, Stores.at(3, 100 * day).active(day), 1 << 3);
            due.is("terms, the last minute of the day " + day, Stores.at(3, 100 * day + 99).active(day), 1 << 3);
        }
        for (int day = 1; day < 20; day++) {
            due.is("terms, the minute ahead of the day " + day, Stores.at(3, 100 * day - 1).active(day), 0);
            due.is("terms, the minute behind the day " + (day - 1), Stores.at(3, 100 * day).active(day - 1), 0);
        }
    }

    /** Promise 2: refused if its day is closed, and only then. */
    private static void eventOnClosedDays() {
        due.answers("2, no closed day: the minute 0", () -> new FunnelFold().event(0, 0, 0), 0);
        for (int days = 1; days <= 20; days++) {
            FunnelFold x = Stores.closed(days);
            int behind = 100 * days;
            due.illegalState("2, " + days + " closed: the first minute of the last of them",
                () -> x.event(0, 0, behind - 100));
            due.illegalState("2, " + days + " closed: the last minute of the last of them",
                () -> x.event(0, 0, behind - 1));
            due.illegalState("2, " + days + " closed: the first minute of all", () -> x.event(0, 0, 0));
            if (days < 20) {
                due.answers("2, " + days + " closed: the first open minute", () -> x.event(0, 0, behind), 0);
                due.answers("2, " + days + " closed: the last open minute", () -> x.event(0, 0, 1999), 1);
            }
        }
    }

    /** Where two exceptions apply, the one that is listed first: IllegalArgumentException. */
    private static void eventWithTwoExceptions() {
        FunnelFold closed = Stores.closed(1);
        due.refusedOutside("2, a closed day and id", 0, 19, id -> closed.event(id, 0, 99));
        due.refusedOutside("2, a closed day and kind", 0, 9, kind -> closed.event(0, kind, 99));
        FunnelFold allClosed = Stores.closed(20);
        due.refusedOutside("2, all days closed and time", 0, 1999, time -> allClosed.event(0, 0, time));
        FunnelFold full = Stores.full(0);
        due.refusedOutside("2, 250 events and id", 0, 19, id -> full.event(id, 0, 99));
        due.refusedOutside("2, 250 events and kind", 0, 9, kind -> full.event(0, kind, 99));
        due.refusedOutside("2, 250 events and time", 0, 1999, time -> full.event(0, 0, time));
        due.illegalArgument("2, all three arguments", () -> closed.event(20, 10, -1));
        full.closeDay();
        due.illegalState("2, a closed day and 250 events", () -> full.event(0, 0, 0));
    }

    /** Terms: in the order of the times, those with the same time in the order of their numbers. */
    private static void order() {
        FunnelFold x = Stores.at(2, 1999, 0, 1000, 0, 1999);
        int[] inOrder = {1, 3, 2, 0, 4};
        for (int place = 0; place < 5; place++) {
            due.is("terms, order, place " + place, x.eventAt(2, place), inOrder[place]);
        }
        FunnelFold y = new FunnelFold();
        for (int number = 0; number < 250; number++) {
            y.event(number % 2 == 0 ? 9 : 4, 0, 777);
        }
        y.merge(4, 9);
        for (int place = 0; place < 250; place++) {
            due.is("terms, 250 events at one time, place " + place, y.eventAt(9, place), place);
        }
        FunnelFold z = new FunnelFold();
        for (int number = 0; number < 250; number++) {
            z.event(11, 0, 1999 - number);
        }
        for (int place = 0; place < 250; place++) {
            due.is("terms, 250 events, each ahead of the one before, place " + place,
                z.eventAt(11, place), 249 - place);
        }
    }

    /** Promise 3: an id 0 to 19, another one 0 to 19. */
    private static void mergeArguments() {
        due.range("3, id", 0, 0, 19, 7, id -> new FunnelFold().merge(id, 7));
        due.range("3, other", 0, 0, 19, 7, other -> new FunnelFold().merge(7, other));
        due.refusedOutside("3, both ids", 0, 19, id -> new FunnelFold().merge(id, id));
        due.is("3, the least and the greatest id", new FunnelFold().merge(0, 19), 0);
        due.is("3, the greatest and the least id", new FunnelFold().merge(19, 0), 0);
    }

    /** Promise 3: they may be one already; the user is told by its lowest id, however many are merged. */
    private static void mergeOfOneAndOfAll() {
        FunnelFold x = Stores.at(12, 5);
        due.is("3, an id with itself", x.merge(12, 12), 12);
        due.is("3, an id with itself: its events", x.eventsOf(12), 1);
        due.is("3, an id with itself: no other one", x.userOf(11), 11);
        x.merge(12, 15);
        due.is("3, one already", x.merge(15, 12), 12);
        due.is("3, one already: its events", x.eventsOf(15), 1);
        x.merge(3, 15);
        due.is("3, one already, the lowest id is neither", x.merge(15, 12), 3);
        due.is("3, an id with itself, of a user with a lower one", x.merge(15, 15), 3);
        due.is("3, an id with itself, of a user with a lower one: its user stays", x.userOf(15), 3);
        due.is("3, an id with itself, of a user with a lower one: the others stay", x.userOf(12), 3);
        x.merge(18, 17);
        due.is("3, two users by their higher ids", x.merge(15, 18), 3);
        due.is("3, two users by their higher ids: the ids that were not named", x.userOf(17), 3);
        FunnelFold y = Stores.allIdsAt(42);
        Stores.mergeAll(y);
        due.is("3, all ids: the user", y.merge(19, 18), 0);
        due.is("3, all ids: the events", y.eventsOf(19), 20);
        due.is("3, all ids: active", y.active(0), 1);
        for (int id = 0; id < 20; id++) {
            due.is("3, all ids: userOf " + id, y.userOf(id), 0);
        }
    }

    /** Promise 3 names no closed day and no number of events. */
    private static void mergeWhenFullOrClosed() {
        FunnelFold x = Stores.full(19);
        Stores.close(x, 20);
        due.is("3, 250 events and all days closed", x.merge(19, 8), 8);
        due.is("3, events that have come already", x.eventsOf(8), 250);
        due.is("3, events that have come already: active on a closed day", x.active(0), 1 << 8);
        FunnelFold y = new FunnelFold();
        y.merge(9, 6);
        y.event(9, 0, 70);
        due.is("3, no events: one that comes then", y.eventsOf(6), 1);
    }

    private static void userOfEdges() {
        due.range("4, id", 0, 0, 19, 19, id -> new FunnelFold().userOf(id));
        for (int id = 0; id < 20; id++) {
            due.is("terms, a user of its own at first: " + id, new FunnelFold().userOf(id), id);
        }
        due.range("4, all ids merged", 0, 0, 19, 0, id -> {
            FunnelFold x = new FunnelFold();
            Stores.mergeAll(x);
            return x.userOf(id);
        });
    }

    private static void usersEdges() {
        due.is("5, all ids", Stores.allIdsAt(0).users(), 20);
        due.is("5, 250 events of one user", Stores.full(0).users(), 1);
        FunnelFold none = new FunnelFold();
        Stores.mergeAll(none);
        due.is("5, merged, but no events", none.users(), 0);
        FunnelFold all = Stores.allIdsAt(1999);
        Stores.mergeAll(all);
        due.is("5, all ids merged", all.users(), 1);
        FunnelFold half = Stores.at(19, 0);
        half.merge(19, 1);
        due.is("5, merged with an id that has no events", half.users(), 1);
        Stores.add(half, 5, 1999);
        Stores.close(half, 20);
        due.is("5, all days closed", half.users(), 2);
    }

    private static void eventsEdges() {
        due.is("6, one event", Stores.at(19, 1999).events(), 1);
        FunnelFold x = Stores.full(3);
        due.is("6, 250 events", x.events(), 250);
        x.merge(3, 2);
        Stores.close(x, 20);
        due.is("6, 250 events, merged, all days closed", x.events(), 250);
    }

    private static void eventsOfEdges() {
        due.range("7, id", 0, 1, 19, 1, id -> Stores.allIdsAt(0).eventsOf(id));
        due.range("7, id, no events", 0, 0, 19, 0, id -> new FunnelFold().eventsOf(id));
        due.is("7, 250 events", Stores.full(19).eventsOf(19), 250);
        due.is("7, 250 events of another user", Stores.full(19).eventsOf(0), 0);
        FunnelFold x = Stores.full(19);
        x.merge(0, 19);
        due.is("7, an id without events, of a user with 250", x.eventsOf(0), 250);
    }

    /** Promise 8: the place 0 is the first one in order; refused if the user has not so many events. */
    private static void eventAtPlaces() {
        due.range("8, id", 0, 0, 19, 19, id -> Stores.allIdsAt(500).eventAt(id, 0));
        due.places("8, place, one event", 1, 0, 0, place -> Stores.at(0, 9).eventAt(0, place));
        due.places("8, place, two events", 2, 1, 0, place -> Stores.at(19, 9, 8).eventAt(19, place));
        due.places("8, place, 250 events", 250, 0, 249, place -> Stores.full(7).eventAt(7, place));
        due.noneOutside("8, place, no events", 0, place -> new FunnelFold().eventAt(7, place));
        due.noneOutside("8, place, 250 events of another user", 0, place -> Stores.full(7).eventAt(6, place));
        due.places("8, place, by an id that has no events itself", 250, 0, 249, place -> {
            FunnelFold x = Stores.full(7);
            x.merge(6, 7);
            return x.eventAt(6, place);
        });
    }

    /** Terms: told from the events as they are; those of closed days are no others. */
    private static void eventAtOnClosedDays() {
        due.places("8, place, all days closed", 3, 1, 0, place -> {
            FunnelFold x = Stores.at(7, 1999, 0, 99);
            Stores.close(x, 20);
            return x.eventAt(7, place);
        });
    }

    private static void eventAtWithTwoExceptions() {
        due.refusedOutside("8, no events and id", 0, 19, id -> new FunnelFold().eventAt(id, 0));
        due.refusedOutside("8, place -1 and id", 0, 19, id -> Stores.full(0).eventAt(id, -1));
        due.refusedOutside("8, place 250 and id", 0, 19, id -> Stores.full(0).eventAt(id, 250));
    }
}
