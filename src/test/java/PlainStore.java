import java.util.ArrayList;
import java.util.Comparator;
import java.util.List;

/** The document, word by word, with no thought of speed: what WalksTest compares with. */
final class PlainStore {
    private record Event(int number, int id, int kind, int time) { }

    private record Figures(int active, int fresh, int sessions) { }

    private final List<Event> events = new ArrayList<>();
    private final List<int[]> merges = new ArrayList<>();
    private final List<Integer> steps = new ArrayList<>();
    private final List<Figures> closed = new ArrayList<>();
    private int gap = 30;
    private int window = 100;

    int event(int id, int kind, int time) {
        argument(id, 0, 19);
        argument(kind, 0, 9);
        argument(time, 0, 1999);
        if (time / 100 < closed.size() || events.size() == 250) {
            throw new IllegalStateException();
        }
        events.add(new Event(events.size(), id, kind, time));
        return events.size() - 1;
    }

    int merge(int id, int other) {
        argument(id, 0, 19);
        argument(other, 0, 19);
        merges.add(new int[] {id, other});
        return lowest(id);
    }

    int userOf(int id) {
        argument(id, 0, 19);
        return lowest(id);
    }

    /** Follows the merges until they reach no other id; the lowest id that is reached. */
    private int lowest(int id) {
        boolean[] reached = new boolean[20];
        reached[id] = true;
        for (int round = 0; round < 20; round++) {
            for (int[] pair : merges) {
                if (reached[pair[0]] || reached[pair[1]]) {
                    reached[pair[0]] = true;
                    reached[pair[1]] = true;
                }
            }
        }
        int least = 0;
        while (!reached[least]) {
            least++;
        }
        return least;
    }

    private int[] lowestOfAll() {
        int[] all = new int[20];
        for (int id = 0; id < 20; id++) {
            all[id] = lowest(id);
        }
        return all;
    }

    /** For each id the events of its user, in order, if it is the lowest id; else none. */
    private List<List<Event>> byUser() {
        int[] lowest = lowestOfAll();
        List<List<Event>> all = new ArrayList<>();
        for (int id = 0; id < 20; id++) {
            all.add(new ArrayList<>());
        }
        for (Event event : events) {
            all.get(lowest[event.id()]).add(event);
        }
        for (List<Event> own : all) {
            own.sort(Comparator.comparingInt(Event::time).thenComparingInt(Event::number));
        }
        return all;
    }

    private List<Event> of(int id) {
        argument(id, 0, 19);
        return byUser().get(lowest(id));
    }

    int users() {
        return (int) byUser().stream().filter(own -> !own.isEmpty()).count();
    }

    int events() {
        return events.size();
    }

    int eventsOf(int id) {
        return of(id).size();
    }

    int eventAt(int id, int place) {
        return at(of(id), place).number();
    }

    int gap(int minutes) {
        argument(minutes, 1, 500);
        int before = gap;
        gap = minutes;
        return before;
    }

    private List<List<Event>> cut(List<Event> own) {
        List<List<Event>> sessions = new ArrayList<>();
        Event ahead = null;
        for (Event event : own) {
            if (ahead == null || event.time() > ahead.time() + gap) {
                sessions.add(new ArrayList<>());
            }
            sessions.get(sessions.size() - 1).add(event);
            ahead = event;
        }
        return sessions;
    }

    int sessions(int id) {
        return cut(of(id)).size();
    }

    int sessionEvents(int id, int session) {
        return at(cut(of(id)), session).size();
    }

    int sessionStart(int id, int session) {
        return at(cut(of(id)), session).get(0).time();
    }

    int sessionLength(int id, int session) {
        List<Event> own = at(cut(of(id)), session);
        return own.get(own.size() - 1).time() - own.get(0).time();
    }

    int step(int kind) {
        argument(kind, 0, 9);
        if (steps.size() == 6) {
            throw new IllegalStateException();
        }
        steps.add(kind);
        return steps.size();
    }

    int clearFunnel() {
        steps.clear();
        return 0;
    }

    int window(int minutes) {
        argument(minutes, 0, 1999);
        int before = window;
        window = minutes;
        return before;
    }

    /** The least time from the step 0 to the step last, the window left aside; NONE if it is not come to. */
    private int leastTime(List<Event> own, int last) {
        int least = FunnelFold.NONE;
        for (int first = 0; first < own.size(); first++) {
            int end = firstEnd(own, first, last);
            if (end < own.size()) {
                int time = own.get(end).time() - own.get(first).time();
                least = least == FunnelFold.NONE ? time : Math.min(least, time);
            }
        }
        return least;
    }

    /** The first place at which the steps 0 to last can end if the step 0 is at first. */
    private int firstEnd(List<Event> own, int first, int last) {
        int place = first;
        if (own.get(first).kind() != steps.get(0)) {
            return own.size();
        }
        for (int step = 1; step <= last && place < own.size(); step++) {
            place++;
            while (place < own.size() && own.get(place).kind() != steps.get(step)) {
                place++;
            }
        }
        return place;
    }

    private boolean passes(List<Event> own, int last) {
        int least = leastTime(own, last);
        return least != FunnelFold.NONE && least <= window;
    }

    private int depthOf(List<Event> own) {
        int depth = 0;
        for (int last = 0; last < steps.size(); last++) {
            if (passes(own, last)) {
                depth = last + 1;
            }
        }
        return depth;
    }

    int depth(int id) {
        return depthOf(of(id));
    }

    int passed(int step) {
        at(steps, step);
        return (int) byUser().stream().filter(own -> depthOf(own) > step).count();
    }

    int fastest(int id) {
        List<Event> own = of(id);
        int last = steps.size() - 1;
        return last < 0 || !passes(own, last) ? FunnelFold.NONE : leastTime(own, last);
    }

    int cohort(int id) {
        return dayOfFirst(of(id));
    }

    private static int dayOfFirst(List<Event> own) {
        return own.isEmpty() ? FunnelFold.NONE : own.get(0).time() / 100;
    }

    private static boolean isActive(List<Event> own, int day) {
        return own.stream().anyMatch(event -> event.time() / 100 == day);
    }

    int retained(int day, int later) {
        argument(day, 0, 19);
        argument(later, 0, 19 - day);
        return (int) byUser().stream()
            .filter(own -> dayOfFirst(own) == day && isActive(own, day + later)).count();
    }

    int active(int day) {
        argument(day, 0, 19);
        return activeOnEach(day, day);
    }

    int activeOnEach(int from, int to) {
        argument(from, 0, 19);
        argument(to, from, 19);
        List<List<Event>> all = byUser();
        int set = 0;
        for (int user = 0; user < 20; user++) {
            boolean onEach = true;
            for (int day = from; day <= to; day++) {
                onEach &= isActive(all.get(user), day);
            }
            set |= onEach ? 1 << user : 0;
        }
        return set;
    }

    int ranked(int by, int rank) {
        argument(by, 0, 2);
        List<List<Event>> all = byUser();
        List<Integer> users = new ArrayList<>();
        for (int user = 0; user < 20; user++) {
            if (!all.get(user).isEmpty()) {
                users.add(user);
            }
        }
        users.sort(Comparator.comparingInt((Integer user) -> -measure(all.get(user), by)));
        return at(users, rank);
    }

    private int measure(List<Event> own, int by) {
        if (by == FunnelFold.EVENTS) {
            return own.size();
        }
        return by == FunnelFold.SESSIONS ? cut(own).size() : depthOf(own);
    }

    int closeDay() {
        int day = closed.size();
        if (day == 20) {
            throw new IllegalStateException();
        }
        int active = 0;
        int fresh = 0;
        int sessions = 0;
        for (List<Event> own : byUser()) {
            active += isActive(own, day) ? 1 : 0;
            fresh += dayOfFirst(own) == day ? 1 : 0;
            for (List<Event> session : cut(own)) {
                sessions += dayOfFirst(session) == day ? 1 : 0;
            }
        }
        closed.add(new Figures(active, fresh, sessions));
        return day;
    }

    int closedDays() {
        return closed.size();
    }

    int keptActive(int day) {
        return at(closed, day).active();
    }

    int keptNew(int day) {
        return at(closed, day).fresh();
    }

    int keptSessions(int day) {
        return at(closed, day).sessions();
    }

    private static void argument(int value, int least, int greatest) {
        if (value < least || value > greatest) {
            throw new IllegalArgumentException();
        }
    }

    private static <T> T at(List<T> list, int index) {
        if (index < 0 || index >= list.size()) {
            throw new IndexOutOfBoundsException();
        }
        return list.get(index);
    }
}
