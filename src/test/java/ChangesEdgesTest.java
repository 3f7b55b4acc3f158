/** Promise 2: "What was solved is gone (so with all that changes anything, also to what it was)". */
final class ChangesEdgesTest {
    private static final Checks checks = new Checks();

    public static void main(String[] args) {
        stateForgets();
        actionForgets();
        rewardForgets();
        moveForgets();
        discountForgets();
        askingForgetsNothing();
        stepsAndWorthsFollowEachChange();
        solvingAgainTellsTheSame();
        lastOfAllCalls();
        checks.end();
    }

    private interface Change {
        boolean on(PolicyWorks x);
    }

    private static PolicyWorks solvedPair() {
        PolicyWorks x = Models.pair();
        x.solve();
        return x;
    }

    /** All that needs solving is refused, until it is solved once more. */
    private static void forgets(String what, Change change) {
        PolicyWorks x = solvedPair();
        checks.due(what + ": solved before", x.count(2) > 0, true);
        checks.due(what + " is taken", change.on(x), true);
        checks.due(what + ": rounds", x.count(2), 0);
        checks.due(what + ": best", x.best(), false);
        for (int s = 0; s < 2; s++) {
            int state = s;
            checks.due(what + ": policy", x.policy(s), PolicyWorks.BAD);
            checks.refused(what + ": value", part -> x.value(state, part));
            checks.refused(what + ": gain", part -> x.gain(state, 0, part));
        }
    }

    private static void stateForgets() {
        checks.sentence("2: What was solved is gone");
        forgets("a state", x -> x.state() == 2);
    }

    private static void actionForgets() {
        checks.sentence("3, by 2: all that changes anything");
        forgets("an action", x -> x.action(0) == 2);
        forgets("an action of the last state", x -> x.action(1) == 2);
    }

    private static void rewardForgets() {
        checks.sentence("4, by 2: all that changes anything, also to what it was");
        forgets("another reward", x -> x.reward(0, 0, 1, 3));
        forgets("the same reward", x -> x.reward(0, 0, 1, 2));
        forgets("the same reward in other terms", x -> x.reward(0, 0, 2, 4));
        forgets("the reward of an action that is not taken", x -> x.reward(0, 1, -1000, 1));
    }

    private static void moveForgets() {
        checks.sentence("5, by 2: all that changes anything, also to what it was");
        forgets("another weight", x -> x.move(1, 1, 1, 5));
        forgets("the same weight", x -> x.move(1, 1, 1, 4));
        forgets("0 that was 0", x -> x.move(0, 1, 0, 0));
        forgets("the last weight to 0", x -> x.move(0, 1, 1, 0));
    }

    private static void discountForgets() {
        checks.sentence("6, by 2: all that changes anything, also to what it was");
        forgets("another discount", x -> x.discount(1, 3));
        forgets("the same discount", x -> x.discount(1, 2));
        forgets("the same discount in other terms", x -> x.discount(10, 20));
    }

    private static void askingForgetsNothing() {
        checks.sentence("2: what changes nothing leaves what was solved");
        PolicyWorks x = solvedPair();
        int rounds = x.count(2);
        String before = Models.picture(x, 2, 2);
        x.worth(1, 0, 0);
        x.worth(4, 0, 0);
        x.steps(5, 1, 1);
        x.steps(9, 1, 1);
        x.plan(3, 0);
        x.plan(0, 0);
        x.bound(2, 0);
        x.bound(-1, 0);
        x.gain(1, 1, 2);
        x.gain(1, 2, 2);
        x.best();
        x.solve();
        checks.due("rounds", x.count(2), rounds);
        checks.due("all the rest", Models.picture(x, 2, 2).equals(before), true);
    }

    /** What needs no solving is told of the model as it is, not as it was when asked before. */
    private static void stepsAndWorthsFollowEachChange() {
        checks.sentence("11 to 14 behind a change");
        PolicyWorks x = Models.loops(8);
        all(x, "at first", 16, 12, 8);
        x.reward(0, 0, 6, 1);
        all(x, "reward", 12, 9, 6);
        x.discount(2, 3);
        all(x, "discount", 18, 10, 12);
        x.state();
        checks.refused("worth behind state()", part -> x.worth(0, 0, part));
        checks.refused("steps behind state()", part -> x.steps(2, 0, part));
        checks.refused("bound behind state()", part -> x.bound(1, part));
        checks.due("plan behind state()", x.plan(1, 0), PolicyWorks.BAD);
        x.action(1);
        x.move(1, 0, 1, 1);
        all(x, "another state", 18, 10, 12);
        // Half of it is lost to state 1, which earns nothing.
        x.move(0, 0, 1, 1);
        all(x, "weight", 9, 8, 12);
        x.action(0);
        checks.due("plan behind action()", x.plan(1, 0), PolicyWorks.BAD);
        x.move(0, 1, 1, 1);
        x.reward(0, 1, 7, 1);
        checks.due("plan of 1", x.plan(1, 0), 1);
        checks.due("plan of 2", x.plan(2, 0), 0);
        checks.told("worth of the other action", part -> x.worth(1, 0, part), 1, 7, 1);
        checks.told("steps with another action", part -> x.steps(1, 0, part), 1, 7, 1);
        checks.told("bound with another action", part -> x.bound(0, part), 1, 21, 1);
        x.reward(0, 1, 5, 1);
        checks.due("plan of 1 behind a change", x.plan(1, 0), 0);
    }

    private static void all(PolicyWorks x, String behind, long worth, long twoSteps, long bound) {
        checks.told("worth: " + behind, part -> x.worth(0, 0, part), 1, worth, 1);
        checks.told("two steps: " + behind, part -> x.steps(2, 0, part), 1, twoSteps, 1);
        checks.told("bound of 1: " + behind, part -> x.bound(1, part), 1, bound, 1);
        checks.due("plan: " + behind, x.plan(2, 0), 0);
    }

    private static void solvingAgainTellsTheSame() {
        checks.sentence("2: changed to what it was, and solved once more");
        PolicyWorks x = solvedPair();
        String before = Models.picture(x, 2, 2);
        x.reward(1, 0, 4, 3);
        x.move(1, 1, 1, 4);
        x.discount(1, 2);
        checks.due("gone", x.best(), false);
        x.solve();
        checks.due("the same", Models.picture(x, 2, 2).equals(before), true);
    }

    private static void lastOfAllCalls() {
        checks.sentence("An object is used for at most 512 calls");
        PolicyWorks x = new PolicyWorks();
        x.state();
        x.action(0);
        x.move(0, 0, 0, 1);
        int calls = 3;
        while (calls < 510) {
            int reward = calls % 1000;
            x.reward(0, 0, reward, 1);
            x.solve();
            checks.due("value at call " + calls, x.value(0, 0), 2L * reward);
            calls += 3;
        }
        checks.due("call 511", x.count(2), 1);
        checks.due("call 512", x.best(), true);
    }
}
