/** Stores to begin a test with, each made anew. */
final class Stores {
    static final int ALL_USERS = (1 << 20) - 1;

    private Stores() { }

    /** The first days are closed, and there is no event. */
    static FunnelFold closed(int days) {
        FunnelFold x = new FunnelFold();
        close(x, days);
        return x;
    }

    static void close(FunnelFold x, int days) {
        for (int day = 0; day < days; day++) {
            x.closeDay();
        }
    }

    /** Events of one id, all of the kind 0, numbered as the times are given. */
    static FunnelFold at(int id, int... times) {
        FunnelFold x = new FunnelFold();
        add(x, id, times);
        return x;
    }

    static void add(FunnelFold x, int id, int... times) {
        for (int time : times) {
            x.event(id, 0, time);
        }
    }

    static FunnelFold withSteps(int... kinds) {
        FunnelFold x = new FunnelFold();
        steps(x, kinds);
        return x;
    }

    static void steps(FunnelFold x, int... kinds) {
        for (int kind : kinds) {
            x.step(kind);
        }
    }

    /** One event of the kind 0 for each id, at one time. */
    static FunnelFold allIdsAt(int time) {
        FunnelFold x = new FunnelFold();
        for (int id = 0; id < 20; id++) {
            x.event(id, 0, time);
        }
        return x;
    }

    /** 250 events of one id: the event n of the kind n % 10, at the minute 8 * n, so the last at 1992. */
    static FunnelFold full(int id) {
        FunnelFold x = new FunnelFold();
        for (int number = 0; number < 250; number++) {
            x.event(id, number % 10, 8 * number);
        }
        return x;
    }

    /**
     * Two closed days whose figures are none that would be kept now: the users 3, 8 and 17 have become one since,
     * and the gap is shorter. That user has 9 events in 6 sessions, and 0 and 5 have events too. There are three
     * steps, and the window and the gap are not those at first.
     */
    static FunnelFold inUse() {
        FunnelFold x = new FunnelFold();
        x.gap(40);
        x.window(250);
        add(x, 3, 10, 45, 120, 1999);
        add(x, 17, 30, 150);
        add(x, 8, 160);
        close(x, 2);
        x.gap(20);
        x.merge(3, 17);
        x.merge(17, 8);
        x.event(3, 1, 301);
        x.event(8, 2, 330);
        x.event(5, 0, 410);
        x.event(5, 1, 480);
        x.event(0, 4, 1999);
        steps(x, 0, 1, 2);
        return x;
    }

    /** The store in use, but the other days are closed too, and 0 and 3 are one user, with 10 events, since. */
    static FunnelFold allClosed() {
        FunnelFold x = inUse();
        close(x, 18);
        x.merge(0, 3);
        return x;
    }

    /** 250 events of ten users; one of them is the ids 3 and 13, with 25 events in as many sessions. */
    static FunnelFold manyEvents() {
        FunnelFold x = new FunnelFold();
        x.gap(1);
        for (int number = 0; number < 249; number++) {
            x.event(number % 10 == 3 && number > 99 ? 13 : number % 10, number / 10 % 10, 8 * number);
        }
        x.event(0, 5, 1999);
        x.merge(3, 13);
        x.window(1999);
        steps(x, 0, 1, 2, 3, 4, 5);
        return x;
    }

    static void mergeAll(FunnelFold x) {
        for (int id = 19; id > 0; id--) {
            x.merge(id, id - 1);
        }
    }
}
