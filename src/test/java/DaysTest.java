/** Promises 25 to 29: closed days and the figures that they keep. */
public final class DaysTest {
    private static final Due due = new Due("DaysTest");

    public static void main(String[] args) {
        closeDayGoesThroughTheDays();
        closeDayChangesNoEvent();
        keptActiveIsAsWhenClosed();
        keptNewIsAsWhenClosed();
        keptSessionsIsAsWhenClosed();
        keptSessionsBeginOnTheDay();
        keptFiguresOfEachDay();
        due.end();
    }

    private static void closeDayGoesThroughTheDays() {
        FunnelFold x = new FunnelFold();
        for (int day = 0; day < 20; day++) {
            due.is("closedDays() before " + day, x.closedDays(), day);
            due.is("closeDay() " + day, x.closeDay(), day);
        }
        due.is("closedDays(), all", x.closedDays(), 20);
        due.illegalState("closeDay(), all closed", () -> x.closeDay());
        due.is("closedDays(), still all", x.closedDays(), 20);
        due.is("keptActive(19)", x.keptActive(19), 0);
    }

    private static void closeDayChangesNoEvent() {
        FunnelFold x = new FunnelFold();
        x.event(1, 0, 50);
        x.event(1, 0, 150);
        x.closeDay();
        due.is("events()", x.events(), 2);
        due.is("eventAt(1, 0)", x.eventAt(1, 0), 0);
        due.is("active(0)", x.active(0), 2);
        due.is("sessions(1)", x.sessions(1), 2);
        due.is("cohort(1)", x.cohort(1), 0);
    }

    private static FunnelFold threeUsersOnDayZero() {
        FunnelFold x = new FunnelFold();
        x.event(4, 0, 0);
        x.event(4, 0, 99);
        x.event(5, 0, 60);
        x.event(6, 0, 80);
        x.event(7, 0, 100);
        return x;
    }

    private static void keptActiveIsAsWhenClosed() {
        FunnelFold x = threeUsersOnDayZero();
        x.closeDay();
        due.is("keptActive(0)", x.keptActive(0), 3);
        x.merge(4, 5);
        due.is("keptActive(0), merged since", x.keptActive(0), 3);
        due.is("active(0), merged since", Integer.bitCount(x.active(0)), 2);
        FunnelFold y = threeUsersOnDayZero();
        y.merge(5, 6);
        y.closeDay();
        due.is("keptActive(0), merged before", y.keptActive(0), 2);
    }

    private static void keptNewIsAsWhenClosed() {
        FunnelFold x = threeUsersOnDayZero();
        x.event(4, 0, 150);
        x.closeDay();
        due.is("keptNew(0)", x.keptNew(0), 3);
        x.merge(4, 5);
        due.is("keptNew(0), merged since", x.keptNew(0), 3);
        x.closeDay();
        due.is("keptNew(1)", x.keptNew(1), 1);
        due.is("keptActive(1)", x.keptActive(1), 2);
        x.merge(6, 7);
        due.is("keptNew(1), merged since", x.keptNew(1), 1);
        FunnelFold y = threeUsersOnDayZero();
        y.merge(6, 7);
        y.closeDay();
        y.closeDay();
        due.is("keptNew(1), merged before", y.keptNew(1), 0);
    }

    private static void keptSessionsIsAsWhenClosed() {
        FunnelFold x = threeUsersOnDayZero();
        x.closeDay();
        due.is("keptSessions(0)", x.keptSessions(0), 4);
        x.gap(99);
        x.merge(4, 5);
        due.is("keptSessions(0), gap and users changed since", x.keptSessions(0), 4);
        FunnelFold y = threeUsersOnDayZero();
        y.gap(99);
        y.closeDay();
        due.is("keptSessions(0), gap changed before", y.keptSessions(0), 3);
    }

    private static void keptSessionsBeginOnTheDay() {
        FunnelFold x = new FunnelFold();
        x.event(1, 0, 90);
        x.event(1, 0, 110);
        x.event(1, 0, 190);
        x.event(2, 0, 199);
        x.event(2, 0, 200);
        x.event(3, 0, 100);
        x.closeDay();
        x.closeDay();
        x.closeDay();
        due.is("keptSessions(0)", x.keptSessions(0), 1);
        due.is("keptSessions(1), one goes on from the day before", x.keptSessions(1), 3);
        due.is("keptSessions(2), the only one goes on", x.keptSessions(2), 0);
        due.is("keptActive(2)", x.keptActive(2), 1);
    }

    private static void keptFiguresOfEachDay() {
        FunnelFold x = new FunnelFold();
        for (int day = 0; day < 20; day++) {
            for (int id = 0; id <= day % 4; id++) {
                x.event(id, 0, 100 * day + 50);
            }
        }
        for (int day = 0; day < 20; day++) {
            x.closeDay();
        }
        for (int day = 0; day < 20; day++) {
            due.is("keptActive " + day, x.keptActive(day), day % 4 + 1);
            due.is("keptNew " + day, x.keptNew(day), day < 4 ? 1 : 0);
            due.is("keptSessions " + day, x.keptSessions(day), day % 4 + 1);
        }
    }
}
