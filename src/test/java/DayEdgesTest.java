/** Promises 25 to 29 at their boundaries, each sentence by a test of its own. */
public final class DayEdgesTest {
    private static final Due due = new Due("DayEdgesTest");

    public static void main(String[] args) {
        closeDayEdges();
        closedDaysEdges();
        noSuchClosedDay();
        keptOfFirstAndLastDay();
        keptAtTheMinutesOfADay();
        keptWithoutEvents();
        keptOfAllUsers();
        keptActiveAsItWas();
        keptNewAsItWas();
        keptSessionsAsTheyWere();
        keptBySettingsOfEachClosing();
        keptSessionsBeginOnTheDay();
        keptOfEventsInOrder();
        keptWithManyEvents();
        due.end();
    }

    private static int kept(int promise, FunnelFold x, int day) {
        return promise == 27 ? x.keptActive(day) : promise == 28 ? x.keptNew(day) : x.keptSessions(day);
    }

    /** Promise 25: the first day that is not closed; refused if all days are closed. */
    private static void closeDayEdges() {
        due.answers("25, no closed day", () -> new FunnelFold().closeDay(), 0);
        for (int days = 1; days < 20; days++) {
            int closed = days;
            due.answers("25, closed days: " + days, () -> Stores.closed(closed).closeDay(), days);
        }
        FunnelFold x = Stores.closed(20);
        due.illegalState("25, all days closed", () -> x.closeDay());
        due.illegalState("25, all days closed, once more", () -> x.closeDay());
        due.answers("25, 250 events", () -> Stores.full(3).closeDay(), 0);
        FunnelFold full = Stores.full(3);
        Stores.close(full, 20);
        due.illegalState("25, 250 events, all days closed", () -> full.closeDay());
    }

    private static void closedDaysEdges() {
        for (int days = 0; days <= 20; days++) {
            due.is("26, closed days: " + days, Stores.closed(days).closedDays(), days);
        }
        FunnelFold x = Stores.closed(20);
        due.illegalState("25, all days closed", () -> x.closeDay());
        due.is("26, refused, as all days are closed", x.closedDays(), 20);
    }

    /** Promises 27 to 29: refused if there is no such day that is closed. */
    private static void noSuchClosedDay() {
        for (int promise = 27; promise <= 29; promise++) {
            int which = promise;
            due.noneOutside(which + ", day, no closed day", 0, day -> kept(which, Stores.full(3), day));
            due.outOfBounds(which + ", the last day, no closed day", () -> kept(which, Stores.full(3), 19));
            for (int days = 1; days <= 20; days++) {
                int closed = days;
                due.places(which + ", day, closed days: " + days, days, 0, 0,
                    day -> kept(which, Stores.closed(closed), day));
            }
        }
    }

    private static void keptOfFirstAndLastDay() {
        FunnelFold x = Stores.at(4, 0);
        Stores.add(x, 5, 99);
        Stores.add(x, 6, 1900);
        Stores.add(x, 7, 1999);
        Stores.add(x, 8, 1950);
        Stores.close(x, 20);
        for (int promise = 27; promise <= 29; promise++) {
            int which = promise;
            due.places(which + ", day, all days closed", 20, 2, 3, day -> kept(which, x, day));
            due.is(which + ", a day between without events", kept(which, x, 10), 0);
        }
    }

    /** Terms: the minutes of a day; each kind of figure is told from them. */
    private static void keptAtTheMinutesOfADay() {
        int[] times = {499, 500, 599, 600};
        int[] figures = {0, 1, 1, 0};
        for (int at = 0; at < 4; at++) {
            FunnelFold x = Stores.at(3, times[at]);
            Stores.close(x, 20);
            for (int promise = 27; promise <= 29; promise++) {
                due.is(promise + ", the day 5, an event at " + times[at], kept(promise, x, 5), figures[at]);
            }
        }
    }

    private static void keptWithoutEvents() {
        FunnelFold x = Stores.closed(20);
        for (int promise = 27; promise <= 29; promise++) {
            for (int day = 0; day < 20; day++) {
                due.is(promise + ", no events, the day " + day, kept(promise, x, day), 0);
            }
        }
    }

    private static void keptOfAllUsers() {
        FunnelFold all = Stores.allIdsAt(99);
        all.closeDay();
        FunnelFold merged = Stores.allIdsAt(99);
        Stores.mergeAll(merged);
        merged.closeDay();
        for (int promise = 27; promise <= 29; promise++) {
            due.is(promise + ", all users", kept(promise, all, 0), 20);
            due.is(promise + ", all users, merged before", kept(promise, merged, 0), 1);
        }
        Stores.mergeAll(all);
        for (int promise = 27; promise <= 29; promise++) {
            due.is(promise + ", all users, merged since", kept(promise, all, 0), 20);
        }
    }

    /** Promise 27: as it was when the day was closed. */
    private static void keptActiveAsItWas() {
        FunnelFold x = Stores.at(4, 50, 150);
        Stores.add(x, 5, 60);
        x.closeDay();
        x.merge(4, 5);
        due.is("27, merged since", x.keptActive(0), 2);
        due.is("22, the same day as it is", x.active(0), 1 << 4);
        x.closeDay();
        due.is("27, the next day closed since", x.keptActive(0), 2);
        due.is("27, the next day", x.keptActive(1), 1);
        Stores.add(x, 6, 200);
        due.is("27, an event since", x.keptActive(1), 1);
    }

    /** Promise 28: their first event on the day, as it was when the day was closed. */
    private static void keptNewAsItWas() {
        FunnelFold x = Stores.at(4, 50, 150);
        Stores.add(x, 5, 160);
        Stores.close(x, 2);
        due.is("28, a user of an earlier day is not new", x.keptNew(1), 1);
        x.merge(4, 5);
        due.is("28, merged since", x.keptNew(1), 1);
        due.is("21, the same cohort as it is", x.retained(1, 0), 0);
        FunnelFold y = Stores.at(5, 160);
        y.closeDay();
        y.closeDay();
        due.is("28, no first event on the day ahead", y.keptNew(0), 0);
        due.is("28, a user that is new", y.keptNew(1), 1);
        FunnelFold z = Stores.at(4, 50);
        z.closeDay();
        Stores.add(z, 5, 160);
        z.merge(5, 4);
        z.closeDay();
        due.is("28, merged before, first on a closed day", z.keptNew(1), 0);
    }

    /** Promise 29: as it was when the day was closed. */
    private static void keptSessionsAsTheyWere() {
        FunnelFold x = Stores.at(4, 0, 31, 62);
        x.closeDay();
        due.is("29, the first gap", x.keptSessions(0), 3);
        x.gap(31);
        due.is("29, another gap since", x.keptSessions(0), 3);
        due.is("10, the sessions as they are", x.sessions(4), 1);
        FunnelFold y = Stores.at(4, 0, 60);
        Stores.add(y, 5, 30);
        y.closeDay();
        y.merge(4, 5);
        due.is("29, merged since", y.keptSessions(0), 3);
        due.is("10, the sessions of the user that they are", y.sessions(5), 1);
    }

    /** Promise 25: each day keeps its figures by the settings and the users of its own closing. */
    private static void keptBySettingsOfEachClosing() {
        FunnelFold x = Stores.at(4, 0, 31, 100, 131, 200, 231);
        Stores.add(x, 5, 15, 115, 215);
        x.gap(31);
        x.closeDay();
        x.gap(30);
        x.closeDay();
        x.merge(4, 5);
        x.closeDay();
        due.is("29, the day 0, by a gap of 31", x.keptSessions(0), 2);
        due.is("29, the day 1, by a gap of 30", x.keptSessions(1), 3);
        due.is("29, the day 2, merged", x.keptSessions(2), 1);
        due.is("27, the day 1", x.keptActive(1), 2);
        due.is("27, the day 2, merged", x.keptActive(2), 1);
    }

    /** Promise 29: sessions that began on the day; one that goes on from the day ahead did not. */
    private static void keptSessionsBeginOnTheDay() {
        FunnelFold on = Stores.at(4, 99, 129);
        Stores.close(on, 2);
        due.is("29, goes on from the last minute of the day ahead: that day", on.keptSessions(0), 1);
        due.is("29, goes on from the last minute of the day ahead", on.keptSessions(1), 0);
        due.is("27, active nevertheless", on.keptActive(1), 1);
        FunnelFold off = Stores.at(4, 99, 130);
        Stores.close(off, 2);
        due.is("29, one minute more than the gap later", off.keptSessions(1), 1);
        FunnelFold other = Stores.at(4, 99);
        Stores.add(other, 5, 100);
        Stores.close(other, 2);
        due.is("29, the event ahead is another user's", other.keptSessions(1), 1);
    }

    /** Terms: first and ahead are told in order, not by the numbers, also of a user merged before. */
    private static void keptOfEventsInOrder() {
        FunnelFold x = Stores.at(4, 150, 50, 149);
        Stores.close(x, 2);
        due.is("28, the first event in order has not the least number", x.keptNew(0), 1);
        due.is("28, the least number is not the first event in order", x.keptNew(1), 0);
        FunnelFold y = Stores.at(4, 150);
        Stores.add(y, 9, 50);
        y.merge(4, 9);
        Stores.close(y, 2);
        due.is("28, merged before, the first event in order has not the least number", y.keptNew(0), 1);
        due.is("28, merged before, the least number is not the first event in order", y.keptNew(1), 0);
        FunnelFold z = Stores.at(4, 120, 95);
        Stores.close(z, 2);
        due.is("29, the event ahead in order has the greater number", z.keptSessions(0), 1);
        due.is("29, goes on from an event with a greater number", z.keptSessions(1), 0);
    }

    private static void keptWithManyEvents() {
        FunnelFold x = Stores.full(9);
        x.gap(7);
        Stores.close(x, 20);
        due.is("29, 250 events: the day 0 has 0, 8 and so on to 96", x.keptSessions(0), 13);
        due.is("29, 250 events: the day 19 has 1904, 1912 and so on to 1992", x.keptSessions(19), 12);
        due.is("27, 250 events of one user", x.keptActive(19), 1);
        due.is("28, 250 events of one user: the first day", x.keptNew(0), 1);
        due.is("28, 250 events of one user: the last day", x.keptNew(19), 0);
        FunnelFold y = new FunnelFold();
        for (int number = 0; number < 250; number++) {
            y.event(number % 20, 0, 50 + number / 20 * 2);
        }
        y.gap(1);
        y.closeDay();
        due.is("29, 250 sessions on one day", y.keptSessions(0), 250);
    }
}
