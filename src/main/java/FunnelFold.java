import java.util.Arrays;

/**
 * An event store for the users of an application. Sessions, a funnel, cohorts
 * and active users are told from the events; days close and keep their figures.
 */
public final class FunnelFold {
    public static final int NONE = -1;
    public static final int EVENTS = 0, SESSIONS = 1, DEPTH = 2;

    private static final int IDS = 20;
    private static final int KINDS = 10;
    private static final int DAYS = 20;
    private static final int DAY_MINUTES = 100;
    private static final int LAST_MINUTE = DAYS * DAY_MINUTES - 1;
    private static final int MOST_EVENTS = 250;
    private static final int MOST_STEPS = 6;
    private static final int SHORTEST_GAP = 1, LONGEST_GAP = 500, FIRST_GAP = 30;
    private static final int FIRST_WINDOW = 100;

    private final int[] userById;
    private final EventLog log;
    private final Funnel funnel;
    private final DayBook dayBook;
    // These two are filled anew by each call that needs them, so that calls make no objects.
    private final Timeline timeline;
    private final int[] scores;
    private int gapMinutes;

    public FunnelFold() {
        userById = new int[IDS];
        for (int id = 0; id < IDS; id++) {
            userById[id] = id;
        }
        log = new EventLog();
        funnel = new Funnel();
        dayBook = new DayBook();
        timeline = new Timeline();
        scores = new int[IDS];
        gapMinutes = FIRST_GAP;
    }

    // ---- events and users

    public int event(int id, int kind, int time) throws IllegalArgumentException, IllegalStateException {
        requireId(id);
        requireKind(kind);
        requireRange(time, 0, LAST_MINUTE);
        if (dayOf(time) < dayBook.closedCount()) {
            throw new IllegalStateException("the day is closed");
        }
        if (log.isFull()) {
            throw new IllegalStateException("there are as many events as there can be");
        }
        return log.append(id, kind, time);
    }

    public int merge(int id, int other) throws IllegalArgumentException {
        requireId(id);
        requireId(other);
        int stays = Math.min(userById[id], userById[other]);
        int goes = Math.max(userById[id], userById[other]);
        for (int each = 0; each < IDS; each++) {
            if (userById[each] == goes) {
                userById[each] = stays;
            }
        }
        return stays;
    }

    public int userOf(int id) throws IllegalArgumentException {
        requireId(id);
        return userById[id];
    }

    public int users() {
        int withEvents = 0;
        for (int place = 0; place < log.count(); place++) {
            withEvents |= 1 << userById[log.idAt(place)];
        }
        return Integer.bitCount(withEvents);
    }

    public int events() {
        return log.count();
    }

    public int eventsOf(int id) throws IllegalArgumentException {
        requireId(id);
        return timelineOf(userById[id]).count();
    }

    public int eventAt(int id, int place) throws IllegalArgumentException, IndexOutOfBoundsException {
        requireId(id);
        Timeline own = timelineOf(userById[id]);
        requireBelow(place, own.count());
        return own.numberAt(place);
    }

    // ---- sessions

    public int gap(int minutes) throws IllegalArgumentException {
        requireRange(minutes, SHORTEST_GAP, LONGEST_GAP);
        int before = gapMinutes;
        gapMinutes = minutes;
        return before;
    }

    public int sessions(int id) throws IllegalArgumentException {
        requireId(id);
        return timelineOf(userById[id]).sessionCount(gapMinutes);
    }

    public int sessionEvents(int id, int session) throws IllegalArgumentException, IndexOutOfBoundsException {
        requireId(id);
        Timeline own = timelineOf(userById[id]);
        int first = firstPlaceOf(session, own);
        return own.sessionEnd(first, gapMinutes) - first;
    }

    public int sessionStart(int id, int session) throws IllegalArgumentException, IndexOutOfBoundsException {
        requireId(id);
        Timeline own = timelineOf(userById[id]);
        return own.timeAt(firstPlaceOf(session, own));
    }

    public int sessionLength(int id, int session) throws IllegalArgumentException, IndexOutOfBoundsException {
        requireId(id);
        Timeline own = timelineOf(userById[id]);
        int first = firstPlaceOf(session, own);
        int last = own.sessionEnd(first, gapMinutes) - 1;
        return own.timeAt(last) - own.timeAt(first);
    }

    // ---- the funnel

    public int step(int kind) throws IllegalArgumentException, IllegalStateException {
        requireKind(kind);
        if (funnel.isFull()) {
            throw new IllegalStateException("the funnel has as many steps as it can have");
        }
        return funnel.append(kind);
    }

    public void clearFunnel() {
        funnel.removeSteps();
    }

    public int window(int minutes) throws IllegalArgumentException {
        requireRange(minutes, 0, LAST_MINUTE);
        return funnel.replaceWindow(minutes);
    }

    public int depth(int id) throws IllegalArgumentException {
        requireId(id);
        return funnel.depthOf(timelineOf(userById[id]));
    }

    public int passed(int step) throws IndexOutOfBoundsException {
        requireBelow(step, funnel.count());
        int passing = 0;
        for (int user = 0; user < IDS; user++) {
            if (funnel.depthOf(timelineOf(user)) > step) {
                passing++;
            }
        }
        return passing;
    }

    public int fastest(int id) throws IllegalArgumentException {
        requireId(id);
        return funnel.fewestMinutesOf(timelineOf(userById[id]));
    }

    // ---- cohorts and active users

    public int cohort(int id) throws IllegalArgumentException {
        requireId(id);
        return timelineOf(userById[id]).firstDay();
    }

    public int retained(int day, int later) throws IllegalArgumentException {
        requireDay(day);
        requireRange(later, 0, DAYS - 1 - day);
        return Integer.bitCount(cohortSet(day) & activeSet(day + later));
    }

    public int active(int day) throws IllegalArgumentException {
        requireDay(day);
        return activeSet(day);
    }

    public int activeOnEach(int from, int to) throws IllegalArgumentException {
        requireDay(from);
        requireRange(to, from, DAYS - 1);
        int onEach = activeSet(from);
        for (int day = from + 1; day <= to; day++) {
            onEach &= activeSet(day);
        }
        return onEach;
    }

    public int ranked(int by, int rank) throws IllegalArgumentException, IndexOutOfBoundsException {
        requireRange(by, EVENTS, DEPTH);
        for (int user = 0; user < IDS; user++) {
            scores[user] = scoreOf(user, by);
        }
        for (int user = 0; user < IDS; user++) {
            if (scores[user] != NONE && usersAheadOf(user) == rank) {
                return user;
            }
        }
        throw new IndexOutOfBoundsException("there are not so many users with events");
    }

    // ---- days

    public int closeDay() throws IllegalStateException {
        if (dayBook.isFull()) {
            throw new IllegalStateException("all days are closed");
        }
        int day = dayBook.closedCount();
        int activeUsers = Integer.bitCount(activeSet(day));
        int newUsers = Integer.bitCount(cohortSet(day));
        dayBook.close(activeUsers, newUsers, sessionsBegunOn(day));
        return day;
    }

    public int closedDays() {
        return dayBook.closedCount();
    }

    public int keptActive(int day) throws IndexOutOfBoundsException {
        requireBelow(day, dayBook.closedCount());
        return dayBook.activeUsersOn(day);
    }

    public int keptNew(int day) throws IndexOutOfBoundsException {
        requireBelow(day, dayBook.closedCount());
        return dayBook.newUsersOn(day);
    }

    public int keptSessions(int day) throws IndexOutOfBoundsException {
        requireBelow(day, dayBook.closedCount());
        return dayBook.sessionsOn(day);
    }

    // ---- what several calls share

    private static void requireId(int id) {
        requireRange(id, 0, IDS - 1);
    }

    private static void requireKind(int kind) {
        requireRange(kind, 0, KINDS - 1);
    }

    private static void requireDay(int day) {
        requireRange(day, 0, DAYS - 1);
    }

    private static void requireRange(int value, int least, int greatest) {
        if (value < least || value > greatest) {
            throw new IllegalArgumentException("an argument is out of its range");
        }
    }

    private static void requireBelow(int index, int count) {
        if (index < 0 || index >= count) {
            throw new IndexOutOfBoundsException("there are not so many");
        }
    }

    private static int dayOf(int time) {
        return time / DAY_MINUTES;
    }

    /** The events of a user; empty for an id that is not the lowest one of its user. */
    private Timeline timelineOf(int user) {
        timeline.clear();
        for (int place = 0; place < log.count(); place++) {
            if (userById[log.idAt(place)] == user) {
                timeline.append(log.numberAt(place), log.kindAt(place), log.timeAt(place));
            }
        }
        return timeline;
    }

    private int firstPlaceOf(int session, Timeline own) {
        int first = own.sessionBegin(session, gapMinutes);
        requireBelow(first, own.count());
        return first;
    }

    /** The users that have an event on a day, bit k for the user k. */
    private int activeSet(int day) {
        int set = 0;
        for (int place = 0; place < log.count(); place++) {
            if (dayOf(log.timeAt(place)) == day) {
                set |= 1 << userById[log.idAt(place)];
            }
        }
        return set;
    }

    /** The users whose first event is on a day, bit k for the user k. */
    private int cohortSet(int day) {
        int seen = 0;
        int set = 0;
        for (int place = 0; place < log.count(); place++) {
            int user = 1 << userById[log.idAt(place)];
            if ((seen & user) == 0 && dayOf(log.timeAt(place)) == day) {
                set |= user;
            }
            seen |= user;
        }
        return set;
    }

    private int sessionsBegunOn(int day) {
        int begun = 0;
        for (int user = 0; user < IDS; user++) {
            begun += timelineOf(user).sessionsBegunOn(day, gapMinutes);
        }
        return begun;
    }

    /** What a user is ranked by; NONE for a user without events, which has no rank. */
    private int scoreOf(int user, int by) {
        Timeline own = timelineOf(user);
        if (own.count() == 0) {
            return NONE;
        }
        if (by == EVENTS) {
            return own.count();
        }
        return by == SESSIONS ? own.sessionCount(gapMinutes) : funnel.depthOf(own);
    }

    private int usersAheadOf(int user) {
        int ahead = 0;
        for (int other = 0; other < IDS; other++) {
            if (scores[other] > scores[user] || scores[other] == scores[user] && other < user) {
                ahead++;
            }
        }
        return ahead;
    }

    /** All events, each told by its place in the order of the times. */
    private static final class EventLog {
        private final int[] ids = new int[MOST_EVENTS];
        private final int[] kinds = new int[MOST_EVENTS];
        private final int[] times = new int[MOST_EVENTS];
        // The number of the event at each place; the rows above are by number.
        private final int[] order = new int[MOST_EVENTS];
        private int count = 0;

        int count() {
            return count;
        }

        boolean isFull() {
            return count >= MOST_EVENTS;
        }

        /** Puts an event behind those that are not later; not to be called when full. */
        int append(int id, int kind, int time) {
            int number = count;
            ids[number] = id;
            kinds[number] = kind;
            times[number] = time;
            int place = number;
            while (place > 0 && times[order[place - 1]] > time) {
                order[place] = order[place - 1];
                place--;
            }
            order[place] = number;
            count++;
            return number;
        }

        int numberAt(int place) {
            return order[place];
        }

        int idAt(int place) {
            return ids[order[place]];
        }

        int kindAt(int place) {
            return kinds[order[place]];
        }

        int timeAt(int place) {
            return times[order[place]];
        }
    }

    /** The events of one user, in order, and the sessions that they are cut into. */
    private static final class Timeline {
        private final int[] numbers = new int[MOST_EVENTS];
        private final int[] kinds = new int[MOST_EVENTS];
        private final int[] times = new int[MOST_EVENTS];
        private int count = 0;

        void clear() {
            count = 0;
        }

        void append(int number, int kind, int time) {
            numbers[count] = number;
            kinds[count] = kind;
            times[count] = time;
            count++;
        }

        int count() {
            return count;
        }

        int numberAt(int place) {
            return numbers[place];
        }

        int kindAt(int place) {
            return kinds[place];
        }

        int timeAt(int place) {
            return times[place];
        }

        int firstDay() {
            return count == 0 ? NONE : dayOf(times[0]);
        }

        int sessionCount(int gap) {
            int begun = 0;
            for (int place = 0; place < count; place++) {
                if (beginsSession(place, gap)) {
                    begun++;
                }
            }
            return begun;
        }

        int sessionsBegunOn(int day, int gap) {
            int begun = 0;
            for (int place = 0; place < count; place++) {
                if (dayOf(times[place]) == day && beginsSession(place, gap)) {
                    begun++;
                }
            }
            return begun;
        }

        /** The place of the first event of a session; the number of events if there is no such session. */
        int sessionBegin(int session, int gap) {
            int ahead = 0;
            for (int place = 0; place < count; place++) {
                if (beginsSession(place, gap)) {
                    if (ahead == session) {
                        return place;
                    }
                    ahead++;
                }
            }
            return count;
        }

        /** The place behind the last event of the session whose first event is at begin. */
        int sessionEnd(int begin, int gap) {
            int place = begin + 1;
            while (place < count && !beginsSession(place, gap)) {
                place++;
            }
            return place;
        }

        private boolean beginsSession(int place, int gap) {
            return place == 0 || times[place] - times[place - 1] > gap;
        }
    }

    /** The steps and the window, and how far the events of a user come in them. */
    private static final class Funnel {
        private final int[] steps = new int[MOST_STEPS];
        private int count = 0;
        private int windowMinutes = FIRST_WINDOW;
        // The latest time from which the steps up to each one are passed so far. An earlier one
        // never serves better: what comes behind is then farther from it.
        private final int[] latestStarts = new int[MOST_STEPS];
        private int passedSteps = 0;
        private int fewestMinutes = NONE;

        int count() {
            return count;
        }

        boolean isFull() {
            return count >= MOST_STEPS;
        }

        /** Adds a step and answers how many there are then; not to be called when full. */
        int append(int kind) {
            steps[count] = kind;
            count++;
            return count;
        }

        void removeSteps() {
            count = 0;
        }

        int replaceWindow(int minutes) {
            int before = windowMinutes;
            windowMinutes = minutes;
            return before;
        }

        int depthOf(Timeline own) {
            follow(own);
            return passedSteps;
        }

        /** The fewest minutes for all steps; NONE if they are not passed. */
        int fewestMinutesOf(Timeline own) {
            follow(own);
            return fewestMinutes;
        }

        private void follow(Timeline own) {
            Arrays.fill(latestStarts, NONE);
            passedSteps = 0;
            fewestMinutes = NONE;
            for (int place = 0; place < own.count(); place++) {
                take(own.kindAt(place), own.timeAt(place));
            }
        }

        /** Goes from the last step down, so that one event never serves for two steps that follow. */
        private void take(int kind, int time) {
            for (int step = count - 1; step >= 0; step--) {
                if (steps[step] == kind) {
                    pass(step, time);
                }
            }
        }

        private void pass(int step, int time) {
            int start = step == 0 ? time : latestStarts[step - 1];
            if (start == NONE || time - start > windowMinutes) {
                return;
            }
            latestStarts[step] = start;
            passedSteps = Math.max(passedSteps, step + 1);
            int minutes = time - start;
            if (step == count - 1 && (fewestMinutes == NONE || minutes < fewestMinutes)) {
                fewestMinutes = minutes;
            }
        }
    }

    /** The days that are closed, and the figures that they keep. */
    private static final class DayBook {
        private final int[] activeUsers = new int[DAYS];
        private final int[] newUsers = new int[DAYS];
        private final int[] begunSessions = new int[DAYS];
        private int closed = 0;

        int closedCount() {
            return closed;
        }

        boolean isFull() {
            return closed >= DAYS;
        }

        /** Closes the first open day; not to be called when full. */
        void close(int active, int fresh, int begun) {
            activeUsers[closed] = active;
            newUsers[closed] = fresh;
            begunSessions[closed] = begun;
            closed++;
        }

        int activeUsersOn(int day) {
            return activeUsers[day];
        }

        int newUsersOn(int day) {
            return newUsers[day];
        }

        int sessionsOn(int day) {
            return begunSessions[day];
        }
    }
}
