/** Promises 2 to 8: events and users. */
public final class EventsTest {
    private static final Due due = new Due("EventsTest");

    public static void main(String[] args) {
        eventTakesIn();
        mergeAnswersTheLowest();
        mergeTakesEventsAlong();
        userOfAnswersTheLowestId();
        usersCountsThoseWithEvents();
        eventsCountsAll();
        eventsOfCountsAUsers();
        eventAtGoesByTimeThenNumber();
        due.end();
    }

    private static void eventTakesIn() {
        FunnelFold x = new FunnelFold();
        due.is("event(0, 0, 0)", x.event(0, 0, 0), 0);
        due.is("event(19, 9, 1999)", x.event(19, 9, 1999), 1);
        due.is("event(19, 9, 1999) again", x.event(19, 9, 1999), 2);
        due.is("event(7, 3, 1000)", x.event(7, 3, 1000), 3);
        due.is("eventsOf(19)", x.eventsOf(19), 2);
        due.is("active(19)", x.active(19), 1 << 19);
    }

    private static void mergeAnswersTheLowest() {
        FunnelFold x = new FunnelFold();
        due.is("merge(5, 9)", x.merge(5, 9), 5);
        due.is("merge(9, 5) again", x.merge(9, 5), 5);
        due.is("merge(9, 12)", x.merge(9, 12), 5);
        due.is("merge(7, 7)", x.merge(7, 7), 7);
        due.is("merge(15, 3)", x.merge(15, 3), 3);
        due.is("merge(12, 15)", x.merge(12, 15), 3);
        for (int id : new int[] {3, 5, 9, 12, 15}) {
            due.is("userOf " + id, x.userOf(id), 3);
        }
        due.is("userOf(7), not merged", x.userOf(7), 7);
        due.is("merge(19, 0)", x.merge(19, 0), 0);
        due.is("userOf(19)", x.userOf(19), 0);
    }

    private static void mergeTakesEventsAlong() {
        FunnelFold x = new FunnelFold();
        x.event(8, 0, 500);
        x.event(4, 1, 200);
        due.is("users() before", x.users(), 2);
        x.merge(8, 4);
        due.is("users() behind", x.users(), 1);
        due.is("eventAt(8, 0)", x.eventAt(8, 0), 1);
        due.is("eventAt(4, 1)", x.eventAt(4, 1), 0);
        x.event(8, 2, 300);
        due.is("eventsOf(4) with a later event", x.eventsOf(4), 3);
        due.is("eventAt(4, 1) with a later event", x.eventAt(4, 1), 2);
        due.is("active(5)", x.active(5), 1 << 4);
    }

    private static void userOfAnswersTheLowestId() {
        FunnelFold x = new FunnelFold();
        x.merge(18, 17);
        due.is("userOf(17)", x.userOf(17), 17);
        due.is("userOf(18)", x.userOf(18), 17);
        x.merge(17, 2);
        due.is("userOf(18), merged by another id", x.userOf(18), 2);
        due.is("userOf(16), not merged", x.userOf(16), 16);
    }

    private static void usersCountsThoseWithEvents() {
        FunnelFold x = new FunnelFold();
        x.event(0, 0, 0);
        x.event(0, 0, 1);
        due.is("users(), one with two events", x.users(), 1);
        x.event(19, 0, 5);
        due.is("users(), two", x.users(), 2);
        x.merge(19, 1);
        due.is("users(), one merged with an id without events", x.users(), 2);
        x.merge(1, 0);
        due.is("users(), both merged", x.users(), 1);
    }

    private static void eventsCountsAll() {
        FunnelFold x = new FunnelFold();
        x.event(1, 0, 10);
        x.event(2, 0, 10);
        x.merge(1, 2);
        x.closeDay();
        due.is("events()", x.events(), 2);
        due.illegalState("event, its day closed", () -> x.event(1, 0, 10));
        due.is("events() after a refusal", x.events(), 2);
    }

    private static void eventsOfCountsAUsers() {
        FunnelFold x = new FunnelFold();
        x.event(6, 0, 10);
        x.event(2, 0, 10);
        x.event(6, 0, 11);
        due.is("eventsOf(6)", x.eventsOf(6), 2);
        due.is("eventsOf(2)", x.eventsOf(2), 1);
        due.is("eventsOf(3)", x.eventsOf(3), 0);
        x.merge(3, 6);
        due.is("eventsOf(3), merged", x.eventsOf(3), 2);
    }

    private static void eventAtGoesByTimeThenNumber() {
        FunnelFold x = new FunnelFold();
        x.event(1, 0, 50);
        x.event(1, 0, 20);
        x.event(2, 0, 20);
        x.event(1, 0, 50);
        x.event(1, 0, 20);
        x.event(1, 0, 0);
        int[] inOrder = {5, 1, 4, 0, 3};
        for (int place = 0; place < inOrder.length; place++) {
            due.is("eventAt(1, " + place + ")", x.eventAt(1, place), inOrder[place]);
        }
        x.merge(1, 2);
        due.is("eventAt(2, 2), merged: the lower number first", x.eventAt(2, 2), 2);
        due.is("eventAt(2, 3), merged", x.eventAt(2, 3), 4);
    }
}
