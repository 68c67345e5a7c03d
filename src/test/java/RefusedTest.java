import java.util.ArrayList;
import java.util.List;
import java.util.function.Supplier;

/**
 * The terms: a call that throws changes nothing. Each refused call is made on one of two stores that are alike;
 * then all that can be told of the two must be the same.
 */
public final class RefusedTest {
    private static final Due due = new Due("RefusedTest");
    private static final int LEAST = Integer.MIN_VALUE;
    private static final int GREATEST = Integer.MAX_VALUE;

    private final String name;
    private final Supplier<FunnelFold> made;
    private final List<List<String>> unchanged = new ArrayList<>();

    private RefusedTest(String name, Supplier<FunnelFold> made) {
        this.name = name;
        this.made = made;
        for (int part = 0; part < Told.PARTS; part++) {
            unchanged.add(told(made.get(), part));
        }
    }

    public static void main(String[] args) {
        RefusedTest empty = new RefusedTest("a new store", FunnelFold::new);
        empty.refuseArguments();
        empty.refuseIndexes(0, 0, 0, 0, 0);
        RefusedTest usual = new RefusedTest("a store in use", Stores::inUse);
        usual.refuseArguments();
        usual.refuseIndexes(9, 6, 3, 3, 2);
        usual.refuse("IllegalStateException", new Call("event", 3, 0, 199));
        usual.refuse("IllegalStateException", new Call("event", 3, 0, 0));
        RefusedTest full = new RefusedTest("250 events, 6 steps", Stores::manyEvents);
        full.refuseArguments();
        full.refuseIndexes(25, 25, 6, 10, 0);
        full.refuse("IllegalStateException", new Call("event", 3, 0, 1999));
        full.refuse("IllegalStateException", new Call("event", 0, 9, 0));
        full.refuse("IllegalStateException", new Call("step", 0));
        full.refuse("IllegalStateException", new Call("step", 9));
        RefusedTest closed = new RefusedTest("all days closed", Stores::allClosed);
        closed.refuseArguments();
        closed.refuseIndexes(10, 6, 3, 2, 20);
        closed.refuse("IllegalStateException", new Call("closeDay"));
        closed.refuse("IllegalStateException", new Call("event", 3, 0, 1999));
        due.end();
    }

    private static List<String> told(FunnelFold x, int part) {
        return Told.answers(x, Told.questions(x, part));
    }

    private void refuse(String exception, Call call) {
        for (int part = 0; part < Told.PARTS; part++) {
            FunnelFold x = made.get();
            due.same(name + ": " + call, call.on(x), "throws." + exception);
            List<String> told = told(x, part);
            List<String> before = unchanged.get(part);
            due.same(name + ": answers, part " + part + ", after " + call,
                String.valueOf(told.size()), String.valueOf(before.size()));
            for (int at = 0; at < Math.min(told.size(), before.size()); at++) {
                due.same(name + ": after " + call, told.get(at), before.get(at));
            }
        }
    }

    /** Each argument that has a range, with the values just outside and the farthest ones. */
    private void refuseArguments() {
        for (int wrong : new int[] {-1, 20, LEAST, GREATEST}) {
            refuseArgument(new Call("event", wrong, 0, 1999));
            refuseArgument(new Call("merge", wrong, 3));
            refuseArgument(new Call("merge", 5, wrong));
            for (String name : new String[] {"userOf", "eventsOf", "sessions", "depth", "fastest", "cohort", "active"}) {
                refuseArgument(new Call(name, wrong));
            }
            for (String name : new String[] {"eventAt", "sessionEvents", "sessionStart", "sessionLength"}) {
                refuseArgument(new Call(name, wrong, 0));
            }
            refuseArgument(new Call("retained", wrong, 0));
            refuseArgument(new Call("retained", 0, wrong));
            refuseArgument(new Call("activeOnEach", wrong, 19));
            refuseArgument(new Call("activeOnEach", 0, wrong));
        }
        for (int wrong : new int[] {-1, 10, LEAST, GREATEST}) {
            refuseArgument(new Call("event", 5, wrong, 1999));
            refuseArgument(new Call("step", wrong));
        }
        for (int wrong : new int[] {-1, 2000, LEAST, GREATEST}) {
            refuseArgument(new Call("event", 5, 0, wrong));
            refuseArgument(new Call("window", wrong));
        }
        for (int wrong : new int[] {0, 501, LEAST, GREATEST}) {
            refuseArgument(new Call("gap", wrong));
        }
        for (int wrong : new int[] {-1, 3, LEAST, GREATEST}) {
            refuseArgument(new Call("ranked", wrong, 0));
        }
        refuseArgument(new Call("retained", 19, 1));
        refuseArgument(new Call("activeOnEach", 19, 18));
    }

    private void refuseArgument(Call call) {
        refuse("IllegalArgumentException", call);
    }

    /** Each index of which there are so many: events and sessions of the user 3, steps, users and closed days. */
    private void refuseIndexes(int events, int sessions, int steps, int users, int days) {
        refuseIndex(events, "eventAt", 3);
        refuseIndex(sessions, "sessionEvents", 3);
        refuseIndex(sessions, "sessionStart", 3);
        refuseIndex(sessions, "sessionLength", 3);
        refuseIndex(steps, "passed");
        for (int by = 0; by < 3; by++) {
            refuseIndex(users, "ranked", by);
        }
        refuseIndex(days, "keptActive");
        refuseIndex(days, "keptNew");
        refuseIndex(days, "keptSessions");
    }

    private void refuseIndex(int count, String name, int... ahead) {
        for (int wrong : new int[] {count, -1, LEAST, GREATEST}) {
            refuse("IndexOutOfBoundsException",
                ahead.length == 0 ? new Call(name, wrong) : new Call(name, ahead[0], wrong));
        }
    }
}
