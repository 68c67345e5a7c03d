/** Promises 9 to 13: the gap and the sessions. */
public final class SessionsTest {
    private static final Due due = new Due("SessionsTest");

    public static void main(String[] args) {
        gapAnswersTheOneBefore();
        gapCountsFromTheEventAhead();
        sessionsOfOneUser();
        sessionsOfMergedUsers();
        sessionsFollowTheGap();
        sessionEventsCounts();
        sessionStartIsTheFirstTime();
        sessionLengthIsLastLessFirst();
        due.end();
    }

    private static void gapAnswersTheOneBefore() {
        FunnelFold x = new FunnelFold();
        due.is("gap(1)", x.gap(1), 30);
        due.is("gap(500)", x.gap(500), 1);
        due.is("gap(500) again", x.gap(500), 500);
    }

    private static void gapCountsFromTheEventAhead() {
        FunnelFold x = new FunnelFold();
        x.event(0, 0, 100);
        x.event(0, 0, 130);
        x.event(0, 0, 160);
        due.is("sessions(0), each 30 later", x.sessions(0), 1);
        due.is("sessionLength(0, 0), longer than the gap", x.sessionLength(0, 0), 60);
        x.event(0, 0, 191);
        due.is("sessions(0), one 31 later", x.sessions(0), 2);
    }

    private static FunnelFold threeSessions() {
        FunnelFold x = new FunnelFold();
        x.event(4, 0, 700);
        x.event(4, 0, 10);
        x.event(4, 0, 310);
        x.event(4, 0, 40);
        x.event(4, 0, 300);
        x.event(4, 0, 65);
        x.event(11, 0, 305);
        return x;
    }

    private static void sessionsOfOneUser() {
        FunnelFold x = threeSessions();
        due.is("sessions(4)", x.sessions(4), 3);
        due.is("sessions(11)", x.sessions(11), 1);
        due.is("sessions(5), no events", x.sessions(5), 0);
        x.event(4, 0, 700);
        due.is("sessions(4), two at one time", x.sessions(4), 3);
    }

    private static void sessionsOfMergedUsers() {
        FunnelFold x = new FunnelFold();
        x.event(1, 0, 0);
        x.event(1, 0, 60);
        x.event(2, 0, 30);
        due.is("sessions(1)", x.sessions(1), 2);
        x.merge(1, 2);
        due.is("sessions(2), merged", x.sessions(2), 1);
        due.is("sessionEvents(2, 0), merged", x.sessionEvents(2, 0), 3);
    }

    private static void sessionsFollowTheGap() {
        FunnelFold x = threeSessions();
        x.gap(24);
        due.is("sessions(4), gap 24", x.sessions(4), 5);
        x.gap(235);
        due.is("sessions(4), gap 235", x.sessions(4), 2);
        x.gap(390);
        due.is("sessions(4), gap 390", x.sessions(4), 1);
        x.gap(1);
        x.event(6, 0, 10);
        x.event(6, 0, 11);
        x.event(6, 0, 13);
        due.is("sessions(6), gap 1", x.sessions(6), 2);
        x.gap(500);
        x.event(7, 0, 1000);
        x.event(7, 0, 1500);
        due.is("sessions(7), gap 500, 500 later", x.sessions(7), 1);
    }

    private static void sessionEventsCounts() {
        FunnelFold x = threeSessions();
        due.is("sessionEvents(4, 0)", x.sessionEvents(4, 0), 3);
        due.is("sessionEvents(4, 1)", x.sessionEvents(4, 1), 2);
        due.is("sessionEvents(4, 2)", x.sessionEvents(4, 2), 1);
        x.merge(4, 11);
        due.is("sessionEvents(11, 1), merged", x.sessionEvents(11, 1), 3);
    }

    private static void sessionStartIsTheFirstTime() {
        FunnelFold x = threeSessions();
        due.is("sessionStart(4, 0)", x.sessionStart(4, 0), 10);
        due.is("sessionStart(4, 1)", x.sessionStart(4, 1), 300);
        due.is("sessionStart(4, 2)", x.sessionStart(4, 2), 700);
        x.event(4, 0, 5);
        due.is("sessionStart(4, 0), an earlier event", x.sessionStart(4, 0), 5);
    }

    private static void sessionLengthIsLastLessFirst() {
        FunnelFold x = threeSessions();
        due.is("sessionLength(4, 0)", x.sessionLength(4, 0), 55);
        due.is("sessionLength(4, 1)", x.sessionLength(4, 1), 10);
        due.is("sessionLength(4, 2), one event", x.sessionLength(4, 2), 0);
    }
}
