/** Promises 20 to 24 and the terms of cohorts at their boundaries, each sentence by a test of its own. */
public final class CohortEdgesTest {
    private static final Due due = new Due("CohortEdgesTest");

    public static void main(String[] args) {
        cohortEdges();
        cohortOfTheFirstEvent();
        retainedArguments();
        retainedUsers();
        activeArgument();
        activeUsers();
        activeOnEachArguments();
        activeOnEachUsers();
        rankedBy();
        rankedRanks();
        rankedTies();
        rankedTiesByTheIdAlone();
        rankedBySettingsAsTheyAre();
        rankedWithTwoExceptions();
        allDaysClosed();
        due.end();
    }

    /** Promise 20: the day; NONE if the user has no events. */
    private static void cohortEdges() {
        due.range("20, id", 0, 19, 19, 19, id -> Stores.allIdsAt(1999).cohort(id));
        due.range("20, id, no events", 0, FunnelFold.NONE, 19, FunnelFold.NONE, id -> new FunnelFold().cohort(id));
        due.is("20, 250 events of another user", Stores.full(3).cohort(2), FunnelFold.NONE);
        due.is("20, 250 events", Stores.full(3).cohort(3), 0);
        for (int day = 0; day < 20; day++) {
            due.is("20, the first minute of the day " + day, Stores.at(3, 100 * day).cohort(3), day);
            due.is("20, the last minute of the day " + day, Stores.at(3, 100 * day + 99).cohort(3), day);
        }
        FunnelFold x = Stores.at(3, 500);
        x.merge(1, 3);
        due.is("20, an id without events, of a user with one", x.cohort(1), 5);
    }

    /** Terms: the day of the first event in order. */
    private static void cohortOfTheFirstEvent() {
        due.is("terms, first in order, not by number", Stores.at(3, 1999, 100, 99, 100).cohort(3), 0);
        FunnelFold x = Stores.at(3, 1999);
        Stores.add(x, 8, 1000);
        x.merge(3, 8);
        due.is("terms, the first one of a merged user", x.cohort(3), 10);
        Stores.add(x, 8, 999);
        due.is("terms, one that comes later, but is ahead", x.cohort(3), 9);
    }

    /** Promise 21: a day 0 to 19, 0 up to 19 less day days later. */
    private static void retainedArguments() {
        due.range("21, day", 0, 1, 19, 1, day -> {
            FunnelFold x = Stores.at(4, 0);
            Stores.add(x, 5, 1999);
            return x.retained(day, 0);
        });
        for (int day = 0; day < 20; day++) {
            int cohort = day;
            FunnelFold x = Stores.at(4, 100 * day + 99);
            Stores.add(x, 4, 1999);
            due.range("21, later, of the day " + day, 0, 1, 19 - day, 1, later -> x.retained(cohort, later));
        }
        due.refusedOutside("21, both arguments", 0, 19, wrong -> Stores.full(4).retained(wrong, wrong));
        due.illegalArgument("21, a day behind the last, later less than 0", () -> Stores.full(4).retained(20, -1));
        due.illegalArgument("21, a day ahead of the first, later up to a day", () -> Stores.full(4).retained(-1, 1));
    }

    private static void retainedUsers() {
        due.is("21, no events", new FunnelFold().retained(0, 0), 0);
        due.is("21, no events, 19 days later", new FunnelFold().retained(0, 19), 0);
        FunnelFold all = Stores.allIdsAt(0);
        for (int id = 0; id < 20; id++) {
            all.event(id, 0, 1900);
        }
        due.is("21, all users, the day itself", all.retained(0, 0), 20);
        due.is("21, all users, 19 days later", all.retained(0, 19), 20);
        due.is("21, all users, a day without events", all.retained(0, 18), 0);
        due.is("21, active, but of an earlier cohort", all.retained(19, 0), 0);
        Stores.mergeAll(all);
        due.is("21, all users merged", all.retained(0, 19), 1);
        due.is("21, the last minute of a cohort", Stores.at(9, 99, 199).retained(0, 1), 1);
        due.is("21, the first minute behind it", Stores.at(9, 100, 199).retained(0, 1), 0);
        due.is("21, the minute ahead of the later day", Stores.at(9, 0, 199).retained(0, 2), 0);
        due.is("21, the first minute of the later day", Stores.at(9, 0, 200).retained(0, 2), 1);
        due.is("21, the last minute of the later day", Stores.at(9, 0, 299).retained(0, 2), 1);
        due.is("21, the minute behind the later day", Stores.at(9, 0, 300).retained(0, 2), 0);
        due.is("21, 250 events of one user", Stores.full(9).retained(0, 19), 1);
    }

    /** Promise 22: a day 0 to 19. */
    private static void activeArgument() {
        due.range("22, day", 0, 1 << 4, 19, 1 << 5, day -> {
            FunnelFold x = Stores.at(4, 0);
            Stores.add(x, 5, 1999);
            return x.active(day);
        });
    }

    /** Promise 22: the set of users, bit k for the user k. */
    private static void activeUsers() {
        due.is("22, no events", new FunnelFold().active(0), 0);
        due.is("22, events on other days alone", Stores.at(4, 99, 200).active(1), 0);
        due.is("22, all users", Stores.allIdsAt(150).active(1), Stores.ALL_USERS);
        for (int id = 0; id < 20; id++) {
            due.is("22, the bit of the user " + id, Stores.at(id, 150).active(1), 1 << id);
        }
        FunnelFold all = Stores.allIdsAt(150);
        Stores.mergeAll(all);
        due.is("22, all users merged", all.active(1), 1);
        FunnelFold x = Stores.at(19, 0);
        x.merge(19, 3);
        due.is("22, the lowest id has no events itself", x.active(0), 1 << 3);
        due.is("22, several events on the day", Stores.at(19, 0, 0, 50, 99).active(0), 1 << 19);
    }

    /** Promise 23: from 0 to 19, to from to 19. */
    private static void activeOnEachArguments() {
        FunnelFold x = new FunnelFold();
        for (int day = 0; day < 20; day++) {
            x.event(19, 0, 100 * day + 99);
            x.event(1, 0, 1999);
        }
        due.range("23, from, to the last day", 0, 1 << 19, 19, 1 << 19 | 2, from -> x.activeOnEach(from, 19));
        due.refusedOutside("23, from and to", 0, 19, day -> x.activeOnEach(day, day));
        for (int day = 0; day < 20; day++) {
            int from = day;
            int atFrom = day < 19 ? 1 << 19 : 1 << 19 | 2;
            due.range("23, to, from the day " + day, from, atFrom, 19, atFrom, to -> x.activeOnEach(from, to));
        }
        due.illegalArgument("23, from the first day to one ahead of it", () -> x.activeOnEach(0, -1));
        due.illegalArgument("23, from the last day to the first", () -> x.activeOnEach(19, 0));
        due.illegalArgument("23, from ahead of the first day", () -> x.activeOnEach(-1, 0));
        due.illegalArgument("23, all days and one ahead and one behind", () -> x.activeOnEach(-1, 20));
    }

    private static void activeOnEachUsers() {
        due.is("23, no events", new FunnelFold().activeOnEach(0, 19), 0);
        due.is("23, no events, one day", new FunnelFold().activeOnEach(0, 0), 0);
        due.is("23, all users, one day", Stores.allIdsAt(1999).activeOnEach(19, 19), Stores.ALL_USERS);
        due.is("23, 250 events of one user, all days", Stores.full(19).activeOnEach(0, 19), 1 << 19);
        for (int missing = 3; missing <= 5; missing++) {
            FunnelFold x = new FunnelFold();
            for (int day = 0; day < 20; day++) {
                if (day != missing) {
                    x.event(6, 0, 100 * day);
                }
            }
            due.is("23, days 3 to 5, not on " + missing, x.activeOnEach(3, 5), 0);
        }
        due.is("23, days 3 to 5, just these", Stores.at(6, 300, 499, 500).activeOnEach(3, 5), 1 << 6);
        due.is("23, the minute ahead of the first day", Stores.at(6, 299, 400, 500).activeOnEach(3, 5), 0);
        due.is("23, the minute behind the last day", Stores.at(6, 300, 400, 600).activeOnEach(3, 5), 0);
        FunnelFold merged = Stores.at(6, 300, 500);
        Stores.add(merged, 2, 400);
        due.is("23, two users, each on some days", merged.activeOnEach(3, 5), 0);
        merged.merge(6, 2);
        due.is("23, the two merged", merged.activeOnEach(3, 5), 1 << 2);
    }

    /** By events 3, 2, 1; by sessions 2, 1, 3; by depth 1, 3, 2. */
    private static FunnelFold threeUsers() {
        FunnelFold x = Stores.at(3, 0, 1, 2, 3);
        Stores.add(x, 2, 0, 500, 1000);
        x.event(1, 7, 100);
        x.event(1, 8, 200);
        x.event(3, 7, 4);
        Stores.steps(x, 7, 8);
        return x;
    }

    /** Promise 24: by EVENTS, SESSIONS or DEPTH. */
    private static void rankedBy() {
        due.range("24, by", 0, 3, 2, 1, by -> threeUsers().ranked(by, 0));
        due.is("24, by EVENTS", threeUsers().ranked(FunnelFold.EVENTS, 0), 3);
        due.is("24, by SESSIONS", threeUsers().ranked(FunnelFold.SESSIONS, 0), 2);
        due.is("24, by DEPTH", threeUsers().ranked(FunnelFold.DEPTH, 0), 1);
        due.is("24, by EVENTS, the last", threeUsers().ranked(FunnelFold.EVENTS, 2), 1);
        due.is("24, by SESSIONS, the last", threeUsers().ranked(FunnelFold.SESSIONS, 2), 3);
        due.is("24, by DEPTH, the last: it passes no step", threeUsers().ranked(FunnelFold.DEPTH, 2), 2);
    }

    /** Promise 24: the rank 0 is the first one; refused if there are not so many users with events. */
    private static void rankedRanks() {
        for (int measure = 0; measure < 3; measure++) {
            int by = measure;
            String call = "24, rank, by " + by;
            due.noneOutside(call + ", no events", 0, rank -> sixSteps(new FunnelFold()).ranked(by, rank));
            due.places(call + ", one user", 1, 19, 19, rank -> Stores.at(19, 0).ranked(by, rank));
            due.places(call + ", all users", 20, 0, 19, rank -> Stores.allIdsAt(0).ranked(by, rank));
            due.places(call + ", 250 events of one user, 6 steps", 1, 9, 9,
                rank -> sixSteps(Stores.full(9)).ranked(by, rank));
            due.places(call + ", all users merged", 1, 0, 0, rank -> {
                FunnelFold x = Stores.allIdsAt(0);
                Stores.mergeAll(x);
                return x.ranked(by, rank);
            });
        }
    }

    private static FunnelFold sixSteps(FunnelFold x) {
        Stores.steps(x, 0, 1, 2, 3, 4, 5);
        return x;
    }

    /** Promise 24: of several alike the one with the lower id. */
    private static void rankedTies() {
        FunnelFold all = Stores.allIdsAt(0);
        for (int by = 0; by < 3; by++) {
            for (int rank = 0; rank < 20; rank++) {
                due.is("24, all alike, by " + by + ", rank " + rank, all.ranked(by, rank), rank);
            }
        }
        FunnelFold x = Stores.at(18, 0);
        Stores.add(x, 4, 0);
        Stores.add(x, 11, 0, 100);
        for (int by = 0; by < 2; by++) {
            due.is("24, more ahead of a lower id, by " + by, x.ranked(by, 0), 11);
            due.is("24, of two alike the lower id, by " + by, x.ranked(by, 1), 4);
            due.is("24, of two alike the higher id, by " + by, x.ranked(by, 2), 18);
        }
        for (int rank = 0; rank < 3; rank++) {
            due.is("24, no steps: all alike, rank " + rank, x.ranked(FunnelFold.DEPTH, rank), new int[] {4, 11, 18}[rank]);
        }
    }

    /** Events of an id, each a kind and a time. */
    private static void add(FunnelFold x, int id, int... kindsAndTimes) {
        for (int at = 0; at < kindsAndTimes.length; at += 2) {
            x.event(id, kindsAndTimes[at], kindsAndTimes[at + 1]);
        }
    }

    /** Promise 24: nothing but the id tells those alike apart, whatever else they have more or earlier. */
    private static void rankedTiesByTheIdAlone() {
        int[] late = {9, 500, 9, 501};
        int[] early = {1, 0, 2, 90};
        tie("more sessions, a greater depth and an earlier cohort", FunnelFold.EVENTS, late, early);
        int[] one = {9, 500};
        int[] three = {1, 0, 2, 1, 9, 2};
        tie("more events, a greater depth and an earlier cohort", FunnelFold.SESSIONS, one, three);
        int[] slow = {1, 500, 2, 590};
        int[] fast = {1, 0, 2, 0, 9, 300, 9, 400};
        tie("more events and sessions, a faster row and an earlier cohort", FunnelFold.DEPTH, slow, fast);
    }

    private static void tie(String more, int by, int[] less, int[] most) {
        for (int turn = 0; turn < 2; turn++) {
            FunnelFold x = Stores.withSteps(1, 2);
            add(x, turn == 0 ? 11 : 4, most);
            add(x, turn == 0 ? 4 : 11, less);
            String call = "24, alike, by " + by + ", but the " + (turn == 0 ? "higher" : "lower") + " id has " + more;
            due.is(call + ", rank 0", x.ranked(by, 0), 4);
            due.is(call + ", rank 1", x.ranked(by, 1), 11);
        }
    }

    /** Terms: told from the settings as they are when it is asked. */
    private static void rankedBySettingsAsTheyAre() {
        FunnelFold x = new FunnelFold();
        add(x, 4, 1, 0, 2, 20, 9, 40);
        add(x, 11, 1, 0, 2, 10, 9, 60);
        Stores.steps(x, 1, 2);
        due.is("24, by SESSIONS, the first gap", x.ranked(FunnelFold.SESSIONS, 0), 11);
        due.is("24, by DEPTH, the first window", x.ranked(FunnelFold.DEPTH, 0), 4);
        x.gap(10);
        x.window(10);
        due.is("24, by SESSIONS, a gap of 10", x.ranked(FunnelFold.SESSIONS, 0), 4);
        due.is("24, by DEPTH, a window of 10", x.ranked(FunnelFold.DEPTH, 0), 11);
        x.clearFunnel();
        due.is("24, by DEPTH, no steps", x.ranked(FunnelFold.DEPTH, 0), 4);
    }

    /** Where two exceptions apply, the one that is listed first: IllegalArgumentException. */
    private static void rankedWithTwoExceptions() {
        due.refusedOutside("24, no events and by", 0, 2, by -> new FunnelFold().ranked(by, 0));
        due.refusedOutside("24, rank -1 and by", 0, 2, by -> Stores.allIdsAt(0).ranked(by, -1));
        due.refusedOutside("24, rank 20 of 20 and by", 0, 2, by -> Stores.allIdsAt(0).ranked(by, 20));
        due.refusedOutside("24, rank there, by", 0, 2, by -> Stores.allIdsAt(0).ranked(by, 19));
    }

    /** Terms: unless it says otherwise, all is told as it is when it is asked; closed days are no other. */
    private static void allDaysClosed() {
        FunnelFold x = Stores.at(19, 0, 1999);
        Stores.add(x, 7, 50);
        Stores.close(x, 20);
        x.merge(19, 3);
        due.is("20, all days closed", x.cohort(19), 0);
        due.is("21, all days closed", x.retained(0, 19), 1);
        due.is("22, all days closed", x.active(0), 1 << 3 | 1 << 7);
        due.is("23, all days closed", x.activeOnEach(19, 19), 1 << 3);
        due.is("24, all days closed", x.ranked(FunnelFold.EVENTS, 1), 7);
    }
}
