/** Promises 20 to 24: cohorts, active users and ranks. */
public final class CohortsTest {
    private static final Due due = new Due("CohortsTest");

    public static void main(String[] args) {
        cohortIsTheFirstDay();
        retainedCountsOfACohort();
        activeIsASetOfUsers();
        activeOnEachIsOnAllDays();
        rankedByEvents();
        rankedBySessions();
        rankedByDepth();
        due.end();
    }

    private static void cohortIsTheFirstDay() {
        FunnelFold x = new FunnelFold();
        due.is("cohort(3), no events", x.cohort(3), FunnelFold.NONE);
        x.event(3, 0, 1999);
        due.is("cohort(3), the last day", x.cohort(3), 19);
        x.event(3, 0, 200);
        due.is("cohort(3), an earlier event", x.cohort(3), 2);
        x.event(3, 0, 500);
        due.is("cohort(3), a later event", x.cohort(3), 2);
        x.event(8, 0, 199);
        due.is("cohort(8)", x.cohort(8), 1);
        x.merge(3, 8);
        due.is("cohort(3), merged", x.cohort(3), 1);
        x.event(8, 0, 99);
        due.is("cohort(3), the first day", x.cohort(3), 0);
    }

    private static void retainedCountsOfACohort() {
        FunnelFold x = new FunnelFold();
        x.event(0, 0, 250);
        x.event(1, 0, 299);
        x.event(2, 0, 200);
        x.event(3, 0, 300);
        x.event(4, 0, 199);
        x.event(4, 0, 250);
        x.event(0, 0, 550);
        x.event(1, 0, 500);
        x.event(1, 0, 599);
        x.event(3, 0, 550);
        due.is("retained(2, 0)", x.retained(2, 0), 3);
        due.is("retained(2, 1)", x.retained(2, 1), 0);
        due.is("retained(2, 3)", x.retained(2, 3), 2);
        due.is("retained(1, 1)", x.retained(1, 1), 1);
        due.is("retained(3, 2)", x.retained(3, 2), 1);
        x.merge(0, 1);
        due.is("retained(2, 3), merged", x.retained(2, 3), 1);
        x.merge(4, 1);
        due.is("retained(2, 3), merged with an earlier one", x.retained(2, 3), 0);
        due.is("retained(1, 4), merged with an earlier one", x.retained(1, 4), 1);
        x.event(19, 0, 0);
        x.event(19, 0, 1999);
        due.is("retained(0, 19)", x.retained(0, 19), 1);
        due.is("retained(19, 0)", x.retained(19, 0), 0);
    }

    private static void activeIsASetOfUsers() {
        FunnelFold x = new FunnelFold();
        x.event(0, 0, 100);
        x.event(19, 0, 199);
        x.event(5, 0, 150);
        x.event(5, 0, 150);
        x.event(6, 0, 99);
        x.event(7, 0, 200);
        due.is("active(1)", x.active(1), 1 | 1 << 5 | 1 << 19);
        due.is("active(0)", x.active(0), 1 << 6);
        due.is("active(2)", x.active(2), 1 << 7);
        due.is("active(19)", x.active(19), 0);
        x.merge(19, 6);
        due.is("active(1), merged: the lowest id", x.active(1), 1 | 1 << 5 | 1 << 6);
        x.closeDay();
        x.closeDay();
        due.is("active(1), closed", x.active(1), 1 | 1 << 5 | 1 << 6);
    }

    private static void activeOnEachIsOnAllDays() {
        FunnelFold x = new FunnelFold();
        for (int day = 0; day < 20; day++) {
            x.event(3, 0, 100 * day);
            x.event(day < 10 ? 4 : 5, 0, 100 * day + 99);
        }
        x.event(9, 0, 950);
        due.is("activeOnEach(0, 19)", x.activeOnEach(0, 19), 1 << 3);
        due.is("activeOnEach(0, 9)", x.activeOnEach(0, 9), 1 << 3 | 1 << 4);
        due.is("activeOnEach(9, 9)", x.activeOnEach(9, 9), 1 << 3 | 1 << 4 | 1 << 9);
        due.is("activeOnEach(9, 10)", x.activeOnEach(9, 10), 1 << 3);
        due.is("activeOnEach(19, 19)", x.activeOnEach(19, 19), 1 << 3 | 1 << 5);
        x.merge(5, 4);
        due.is("activeOnEach(0, 19), merged", x.activeOnEach(0, 19), 1 << 3 | 1 << 4);
        due.is("activeOnEach(1, 1), a user without events", x.activeOnEach(1, 1) >> 5, 0);
    }

    private static void isRanked(FunnelFold x, int by, int... users) {
        for (int rank = 0; rank < users.length; rank++) {
            due.is("ranked(" + by + ", " + rank + ")", x.ranked(by, rank), users[rank]);
        }
        due.outOfBounds("ranked(" + by + ", " + users.length + ")", () -> x.ranked(by, users.length));
        due.outOfBounds("ranked(" + by + ", -1)", () -> x.ranked(by, -1));
    }

    /** By events 12, 2, 19, 7; by sessions 2, 19, 7, 12; by depth, with the steps 1 1, 7, 12, 2, 19. */
    private static FunnelFold fourUsers() {
        FunnelFold x = new FunnelFold();
        for (int time = 0; time < 4; time++) {
            x.event(12, time == 0 ? 1 : 0, time);
        }
        for (int time = 0; time < 300; time += 100) {
            x.event(2, 0, time);
        }
        x.event(19, 0, 0);
        x.event(19, 0, 500);
        x.event(7, 1, 30);
        x.event(7, 1, 61);
        x.step(1);
        x.step(1);
        return x;
    }

    private static void rankedByEvents() {
        FunnelFold x = fourUsers();
        isRanked(x, FunnelFold.EVENTS, 12, 2, 7, 19);
        x.event(19, 0, 501);
        isRanked(x, FunnelFold.EVENTS, 12, 2, 19, 7);
        x.merge(7, 19);
        isRanked(x, FunnelFold.EVENTS, 7, 12, 2);
    }

    private static void rankedBySessions() {
        FunnelFold x = fourUsers();
        isRanked(x, FunnelFold.SESSIONS, 2, 7, 19, 12);
        x.gap(31);
        isRanked(x, FunnelFold.SESSIONS, 2, 19, 7, 12);
        x.merge(0, 12);
        isRanked(x, FunnelFold.SESSIONS, 2, 19, 0, 7);
    }

    private static void rankedByDepth() {
        FunnelFold x = fourUsers();
        isRanked(x, FunnelFold.DEPTH, 7, 12, 2, 19);
        x.window(30);
        isRanked(x, FunnelFold.DEPTH, 7, 12, 2, 19);
        x.event(12, 1, 2);
        isRanked(x, FunnelFold.DEPTH, 12, 7, 2, 19);
        x.clearFunnel();
        isRanked(x, FunnelFold.DEPTH, 2, 7, 12, 19);
    }
}
