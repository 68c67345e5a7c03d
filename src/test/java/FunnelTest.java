/** Promises 14 to 19: the funnel. */
public final class FunnelTest {
    private static final Due due = new Due("FunnelTest");

    public static void main(String[] args) {
        stepAnswersHowMany();
        clearFunnelTakesStepsOut();
        windowAnswersTheOneBefore();
        depthOfOrderedEvents();
        depthGoesByOrderNotByNumber();
        depthNeedsAnEventForEachStep();
        depthChoosesAmongStarts();
        depthIsBoundByTheWindow();
        depthOfMergedUsers();
        passedCountsUsers();
        fastestTakesTheLeast();
        fastestIsBoundByTheWindow();
        fastestOfNothing();
        due.end();
    }

    private static FunnelFold withSteps(int... kinds) {
        FunnelFold x = new FunnelFold();
        for (int kind : kinds) {
            x.step(kind);
        }
        return x;
    }

    private static void stepAnswersHowMany() {
        FunnelFold x = new FunnelFold();
        for (int count = 1; count <= 6; count++) {
            due.is("step, the " + count + ". one", x.step(count == 1 ? 0 : 9), count);
        }
        due.illegalState("step(0), the 7. one", () -> x.step(0));
        due.illegalArgument("step(10), the 7. one", () -> x.step(10));
        due.outOfBounds("passed(6), six steps", () -> x.passed(6));
        due.is("passed(5), six steps", x.passed(5), 0);
    }

    private static void clearFunnelTakesStepsOut() {
        FunnelFold x = withSteps(1, 2, 3, 4, 5, 6);
        x.event(0, 1, 10);
        x.window(17);
        x.clearFunnel();
        due.outOfBounds("passed(0), cleared", () -> x.passed(0));
        due.is("depth(0), cleared", x.depth(0), 0);
        due.is("fastest(0), cleared", x.fastest(0), FunnelFold.NONE);
        due.is("step(1), cleared", x.step(1), 1);
        due.is("depth(0), a new step", x.depth(0), 1);
        due.is("window(3), cleared: it stays", x.window(3), 17);
        x.clearFunnel();
        x.clearFunnel();
        due.is("step(2), cleared twice", x.step(2), 1);
        due.is("depth(0), another step", x.depth(0), 0);
    }

    private static void windowAnswersTheOneBefore() {
        FunnelFold x = new FunnelFold();
        due.is("window(0)", x.window(0), 100);
        due.is("window(1999)", x.window(1999), 0);
        due.is("window(5)", x.window(5), 1999);
    }

    private static void depthOfOrderedEvents() {
        FunnelFold x = withSteps(1, 2, 3);
        due.is("depth(0), no events", x.depth(0), 0);
        x.event(0, 2, 10);
        x.event(0, 3, 11);
        due.is("depth(0), not the step 0", x.depth(0), 0);
        x.event(0, 1, 12);
        due.is("depth(0), the step 0 behind the others", x.depth(0), 1);
        x.event(0, 9, 13);
        x.event(0, 2, 14);
        x.event(0, 1, 15);
        due.is("depth(0), others between", x.depth(0), 2);
        x.event(0, 3, 16);
        due.is("depth(0), all", x.depth(0), 3);
    }

    private static void depthGoesByOrderNotByNumber() {
        FunnelFold x = withSteps(1, 2);
        x.event(0, 2, 50);
        x.event(0, 1, 40);
        due.is("depth(0), by the times", x.depth(0), 2);
        x.event(1, 2, 50);
        x.event(1, 1, 50);
        due.is("depth(1), at one time by the numbers", x.depth(1), 1);
        x.event(1, 2, 50);
        due.is("depth(1), a later number at that time", x.depth(1), 2);
    }

    private static void depthNeedsAnEventForEachStep() {
        FunnelFold x = withSteps(4, 4, 4);
        x.event(0, 4, 1);
        due.is("depth(0), one event", x.depth(0), 1);
        x.event(0, 4, 1);
        due.is("depth(0), two events", x.depth(0), 2);
        x.event(0, 4, 1);
        due.is("depth(0), three events", x.depth(0), 3);
        x.event(0, 4, 1);
        due.is("depth(0), four events", x.depth(0), 3);
    }

    private static void depthChoosesAmongStarts() {
        FunnelFold x = withSteps(1, 2, 3, 1);
        x.event(0, 1, 100);
        x.event(0, 2, 150);
        x.event(0, 1, 190);
        x.event(0, 2, 230);
        x.event(0, 3, 280);
        due.is("depth(0), by the later start", x.depth(0), 3);
        x.event(0, 1, 291);
        due.is("depth(0), the last step one too late", x.depth(0), 3);
        x.event(0, 1, 290);
        due.is("depth(0), the last step in time", x.depth(0), 4);
        FunnelFold y = withSteps(1, 2, 3);
        y.event(0, 1, 100);
        y.event(0, 2, 110);
        y.event(0, 1, 205);
        y.event(0, 3, 199);
        due.is("depth(0), a later start leaves the earlier one", y.depth(0), 3);
    }

    private static void depthIsBoundByTheWindow() {
        FunnelFold x = withSteps(1, 2, 3);
        x.event(0, 1, 100);
        x.event(0, 2, 200);
        x.event(0, 3, 201);
        due.is("depth(0), 100 and 101 later", x.depth(0), 2);
        x.window(101);
        due.is("depth(0), a window of 101", x.depth(0), 3);
        x.window(99);
        due.is("depth(0), a window of 99", x.depth(0), 1);
        x.window(0);
        due.is("depth(0), a window of 0", x.depth(0), 1);
        x.event(0, 2, 100);
        x.event(0, 3, 100);
        due.is("depth(0), a window of 0, all at one time", x.depth(0), 3);
        FunnelFold y = withSteps(1, 2);
        y.window(1999);
        y.event(0, 1, 0);
        y.event(0, 2, 1999);
        due.is("depth(0), the widest window", y.depth(0), 2);
    }

    private static void depthOfMergedUsers() {
        FunnelFold x = withSteps(1, 2);
        x.event(9, 1, 10);
        x.event(3, 2, 20);
        due.is("depth(9)", x.depth(9), 1);
        due.is("depth(3)", x.depth(3), 0);
        x.merge(9, 3);
        due.is("depth(9), merged", x.depth(9), 2);
        due.is("depth(3), merged", x.depth(3), 2);
    }

    private static void passedCountsUsers() {
        FunnelFold x = withSteps(1, 2);
        for (int id = 0; id < 20; id++) {
            x.event(id, id < 12 ? 1 : 2, 10);
        }
        x.event(5, 2, 20);
        x.event(19, 2, 20);
        x.event(11, 2, 110);
        due.is("passed(0)", x.passed(0), 12);
        due.is("passed(1)", x.passed(1), 2);
        x.merge(5, 11);
        due.is("passed(0), two merged", x.passed(0), 11);
        due.is("passed(1), two merged", x.passed(1), 1);
        x.window(9);
        due.is("passed(1), a small window", x.passed(1), 0);
    }

    private static void fastestTakesTheLeast() {
        FunnelFold x = withSteps(1, 2, 3);
        x.event(0, 1, 10);
        x.event(0, 2, 20);
        x.event(0, 3, 60);
        due.is("fastest(0)", x.fastest(0), 50);
        x.event(0, 3, 61);
        due.is("fastest(0), a later last step", x.fastest(0), 50);
        x.event(0, 1, 15);
        due.is("fastest(0), a later first step", x.fastest(0), 45);
        x.event(0, 1, 30);
        due.is("fastest(0), a first step behind the second one", x.fastest(0), 45);
        x.event(0, 1, 500);
        x.event(0, 2, 520);
        x.event(0, 3, 530);
        due.is("fastest(0), a faster row", x.fastest(0), 30);
        x.event(0, 1, 600);
        x.event(0, 2, 620);
        x.event(0, 3, 690);
        due.is("fastest(0), a slower row", x.fastest(0), 30);
        x.event(7, 2, 505);
        x.merge(0, 7);
        due.is("fastest(7), merged", x.fastest(7), 30);
        x.event(7, 3, 506);
        due.is("fastest(7), a new last step", x.fastest(7), 6);
    }

    private static void fastestIsBoundByTheWindow() {
        FunnelFold x = withSteps(1, 2);
        x.event(0, 1, 100);
        x.event(0, 2, 201);
        due.is("fastest(0), 101 later", x.fastest(0), FunnelFold.NONE);
        x.window(101);
        due.is("fastest(0), a window of 101", x.fastest(0), 101);
        x.window(0);
        x.event(0, 2, 100);
        due.is("fastest(0), a window of 0", x.fastest(0), 0);
    }

    private static void fastestOfNothing() {
        FunnelFold x = new FunnelFold();
        x.event(0, 1, 100);
        due.is("fastest(0), no steps", x.fastest(0), FunnelFold.NONE);
        x.step(1);
        due.is("fastest(0), one step", x.fastest(0), 0);
        due.is("fastest(1), no events", x.fastest(1), FunnelFold.NONE);
        x.step(1);
        due.is("fastest(0), one event for two steps", x.fastest(0), FunnelFold.NONE);
        x.event(0, 1, 130);
        due.is("fastest(0), two events of a kind", x.fastest(0), 30);
    }
}
