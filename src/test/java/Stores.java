/** Stores to begin a test with, each made anew. */
final class Stores {
    static final int ALL_USERS = (1 << 20) - 1;

    private Stores() { }

    /** The first days are closed, and there is no event. */
    static FunnelFold closed(int days) {
        FunnelFold x = new FunnelFold();
        close(x, days);
        return x;
    }

    static void close(FunnelFold x, int days) {
        for (int day = 0; day < days; day++) {
            x.closeDay();
        }
    }

    /** Events of one id, all of the kind 0, numbered as the times are given. */
    static FunnelFold at(int id, int... times) {
        FunnelFold x = new FunnelFold();
        add(x, id, times);
        return x;
    }

    static void add(FunnelFold x, int id, int... times) {
        for (int time : times) {
            x.event(id, 0, time);
        }
    }

    static FunnelFold withSteps(int... kinds) {
        FunnelFold x = new FunnelFold();
        steps(x, kinds);
        return x;
    }

    static void steps(FunnelFold x, int... kinds) {
        for (int kind : kinds) {
            x.step(kind);
        }
    }

    /** One event of the kind 0 for each id, at one time. */
    static FunnelFold allIdsAt(int time) {
        FunnelFold x = new FunnelFold();
        for (int id = 0; id < 20; id++) {
            x.event(id, 0, time);
        }
        return x;
    }

    /** 250 events of one id: the event n of the kind n % 10, at the minute 8 * n, so the last at 1992. */
    static FunnelFold full(int id) {
        FunnelFold x = new FunnelFold();
        for (int number = 0; number < 250; number++) {
            x.event(id, number % 10, 8 * number);
        }
        return x;
    }

    static void mergeAll(FunnelFold x) {
        for (int id = 19; id > 0; id--) {
            x.merge(id, id - 1);
        }
    }
}
