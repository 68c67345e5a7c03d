/** Promises 1 to 8: a new object, events and users. */
public final class EventsTest {
    private static final Due due = new Due("EventsTest");
    private static final int[] NO_ID = {-1, 20, Integer.MIN_VALUE, Integer.MAX_VALUE};

    public static void main(String[] args) {
        newObject();
        eventTakesIn();
        eventRefusesArguments();
        eventRefusesClosedDays();
        eventRefusesMoreThan250();
        mergeAnswersTheLowest();
        mergeTakesEventsAlong();
        mergeRefusesIds();
        userOfAnswersTheLowestId();
        usersCountsThoseWithEvents();
        eventsCountsAll();
        eventsOfCountsAUsers();
        eventAtGoesByTimeThenNumber();
        eventAtRefuses();
        due.end();
    }

    private static void newObject() {
        FunnelFold x = new FunnelFold();
        due.is("new: events()", x.events(), 0);
        due.is("new: users()", x.users(), 0);
        due.is("new: closedDays()", x.closedDays(), 0);
        due.outOfBounds("new: passed(0)", () -> x.passed(0));
        due.outOfBounds("new: keptActive(0)", () -> x.keptActive(0));
        due.is("new: gap(1)", x.gap(1), 30);
        due.is("new: window(0)", x.window(0), 100);
        due.is("new: step(0)", x.step(0), 1);
        for (int id = 0; id < 20; id++) {
            due.is("new: userOf " + id, x.userOf(id), id);
            due.is("new: eventsOf " + id, x.eventsOf(id), 0);
            due.is("new: sessions " + id, x.sessions(id), 0);
            due.is("new: depth " + id, x.depth(id), 0);
            due.is("new: cohort " + id, x.cohort(id), FunnelFold.NONE);
        }
        for (int day = 0; day < 20; day++) {
            due.is("new: active " + day, x.active(day), 0);
        }
    }

    private static void twoObjectsAreApart(FunnelFold used) {
        due.is("another object: events()", new FunnelFold().events(), 0);
        due.is("the used object: events()", used.events(), 4);
    }

    private static void eventTakesIn() {
        FunnelFold x = new FunnelFold();
        due.is("event(0, 0, 0)", x.event(0, 0, 0), 0);
        due.is("event(19, 9, 1999)", x.event(19, 9, 1999), 1);
        due.is("event(19, 9, 1999) again", x.event(19, 9, 1999), 2);
        due.is("event(7, 3, 1000)", x.event(7, 3, 1000), 3);
        due.is("eventsOf(19)", x.eventsOf(19), 2);
        due.is("active(19)", x.active(19), 1 << 19);
        twoObjectsAreApart(x);
    }

    private static void eventRefusesArguments() {
        FunnelFold x = new FunnelFold();
        for (int id : NO_ID) {
            due.illegalArgument("event, id " + id, () -> x.event(id, 0, 0));
        }
        for (int kind : new int[] {-1, 10, Integer.MIN_VALUE, Integer.MAX_VALUE}) {
            due.illegalArgument("event, kind " + kind, () -> x.event(0, kind, 0));
        }
        for (int time : new int[] {-1, 2000, Integer.MIN_VALUE, Integer.MAX_VALUE}) {
            due.illegalArgument("event, time " + time, () -> x.event(0, 0, time));
        }
        due.is("events() after refusals", x.events(), 0);
        due.is("event(0, 0, 0) after refusals", x.event(0, 0, 0), 0);
    }

    private static void eventRefusesClosedDays() {
        FunnelFold x = new FunnelFold();
        x.closeDay();
        due.illegalState("event(0, 0, 0), its day closed", () -> x.event(0, 0, 0));
        due.illegalState("event(0, 0, 99), its day closed", () -> x.event(0, 0, 99));
        due.illegalArgument("event(20, 0, 99): the argument first", () -> x.event(20, 0, 99));
        due.illegalArgument("event(0, 10, 99): the argument first", () -> x.event(0, 10, 99));
        due.illegalArgument("event(0, 0, -1): the argument first", () -> x.event(0, 0, -1));
        due.is("events() after refusals", x.events(), 0);
        due.is("event(0, 0, 100), its day open", x.event(0, 0, 100), 0);
        for (int day = 1; day < 20; day++) {
            x.closeDay();
        }
        due.illegalState("event(0, 0, 1999), all days closed", () -> x.event(0, 0, 1999));
    }

    private static void eventRefusesMoreThan250() {
        FunnelFold x = new FunnelFold();
        for (int number = 0; number < 250; number++) {
            due.is("event " + number, x.event(number % 20, number % 10, 1999 - 7 * number), number);
        }
        due.illegalState("event 250", () -> x.event(0, 0, 0));
        due.illegalArgument("event 250 with a wrong id", () -> x.event(-1, 0, 0));
        due.is("events() when full", x.events(), 250);
        due.is("eventsOf(3) when full", x.eventsOf(3), 13);
        due.is("eventAt(3, 0) when full", x.eventAt(3, 0), 243);
        due.is("eventAt(3, 12) when full", x.eventAt(3, 12), 3);
    }

    private static void mergeAnswersTheLowest() {
        FunnelFold x = new FunnelFold();
        due.is("merge(5, 9)", x.merge(5, 9), 5);
        due.is("merge(9, 5) again", x.merge(9, 5), 5);
        due.is("merge(9, 12)", x.merge(9, 12), 5);
        due.is("merge(7, 7)", x.merge(7, 7), 7);
        due.is("merge(15, 3)", x.merge(15, 3), 3);
        due.is("merge(12, 15)", x.merge(12, 15), 3);
        for (int id : new int[] {3, 5, 9, 12, 15}) {
            due.is("userOf " + id, x.userOf(id), 3);
        }
        due.is("userOf(7), not merged", x.userOf(7), 7);
        due.is("merge(19, 0)", x.merge(19, 0), 0);
        due.is("userOf(19)", x.userOf(19), 0);
    }

    private static void mergeTakesEventsAlong() {
        FunnelFold x = new FunnelFold();
        x.event(8, 0, 500);
        x.event(4, 1, 200);
        due.is("users() before", x.users(), 2);
        x.merge(8, 4);
        due.is("users() behind", x.users(), 1);
        due.is("eventAt(8, 0)", x.eventAt(8, 0), 1);
        due.is("eventAt(4, 1)", x.eventAt(4, 1), 0);
        x.event(8, 2, 300);
        due.is("eventsOf(4) with a later event", x.eventsOf(4), 3);
        due.is("eventAt(4, 1) with a later event", x.eventAt(4, 1), 2);
        due.is("active(5)", x.active(5), 1 << 4);
    }

    private static void mergeRefusesIds() {
        FunnelFold x = new FunnelFold();
        for (int id : NO_ID) {
            due.illegalArgument("merge, id " + id, () -> x.merge(id, 3));
            due.illegalArgument("merge, other " + id, () -> x.merge(3, id));
            due.illegalArgument("userOf, id " + id, () -> x.userOf(id));
            due.illegalArgument("eventsOf, id " + id, () -> x.eventsOf(id));
        }
        due.is("userOf(3) after refusals", x.userOf(3), 3);
    }

    private static void userOfAnswersTheLowestId() {
        FunnelFold x = new FunnelFold();
        x.merge(18, 17);
        due.is("userOf(17)", x.userOf(17), 17);
        due.is("userOf(18)", x.userOf(18), 17);
        x.merge(17, 2);
        due.is("userOf(18), merged by another id", x.userOf(18), 2);
        due.is("userOf(16), not merged", x.userOf(16), 16);
    }

    private static void usersCountsThoseWithEvents() {
        FunnelFold x = new FunnelFold();
        x.event(0, 0, 0);
        x.event(0, 0, 1);
        due.is("users(), one with two events", x.users(), 1);
        x.event(19, 0, 5);
        due.is("users(), two", x.users(), 2);
        x.merge(19, 1);
        due.is("users(), one merged with an id without events", x.users(), 2);
        x.merge(1, 0);
        due.is("users(), both merged", x.users(), 1);
    }

    private static void eventsCountsAll() {
        FunnelFold x = new FunnelFold();
        x.event(1, 0, 10);
        x.event(2, 0, 10);
        x.merge(1, 2);
        x.closeDay();
        due.is("events()", x.events(), 2);
        due.illegalState("event, its day closed", () -> x.event(1, 0, 10));
        due.is("events() after a refusal", x.events(), 2);
    }

    private static void eventsOfCountsAUsers() {
        FunnelFold x = new FunnelFold();
        x.event(6, 0, 10);
        x.event(2, 0, 10);
        x.event(6, 0, 11);
        due.is("eventsOf(6)", x.eventsOf(6), 2);
        due.is("eventsOf(2)", x.eventsOf(2), 1);
        due.is("eventsOf(3)", x.eventsOf(3), 0);
        x.merge(3, 6);
        due.is("eventsOf(3), merged", x.eventsOf(3), 2);
    }

    private static void eventAtGoesByTimeThenNumber() {
        FunnelFold x = new FunnelFold();
        x.event(1, 0, 50);
        x.event(1, 0, 20);
        x.event(2, 0, 20);
        x.event(1, 0, 50);
        x.event(1, 0, 20);
        x.event(1, 0, 0);
        int[] inOrder = {5, 1, 4, 0, 3};
        for (int place = 0; place < inOrder.length; place++) {
            due.is("eventAt(1, " + place + ")", x.eventAt(1, place), inOrder[place]);
        }
        x.merge(1, 2);
        due.is("eventAt(2, 2), merged: the lower number first", x.eventAt(2, 2), 2);
        due.is("eventAt(2, 3), merged", x.eventAt(2, 3), 4);
    }

    private static void eventAtRefuses() {
        FunnelFold x = new FunnelFold();
        x.event(1, 0, 50);
        due.outOfBounds("eventAt(1, 1)", () -> x.eventAt(1, 1));
        due.outOfBounds("eventAt(1, -1)", () -> x.eventAt(1, -1));
        due.outOfBounds("eventAt(1, greatest)", () -> x.eventAt(1, Integer.MAX_VALUE));
        due.outOfBounds("eventAt(1, least)", () -> x.eventAt(1, Integer.MIN_VALUE));
        due.outOfBounds("eventAt(2, 0), no events", () -> x.eventAt(2, 0));
        for (int id : NO_ID) {
            due.illegalArgument("eventAt, id " + id, () -> x.eventAt(id, 0));
            due.illegalArgument("eventAt, id " + id + ", no place", () -> x.eventAt(id, -1));
        }
    }
}
