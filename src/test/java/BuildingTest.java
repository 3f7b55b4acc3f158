/** Promises 1 to 6 and 16: what callers set, and how it is counted. */
final class BuildingTest {
    private static final Checks checks = new Checks();

    public static void main(String[] args) {
        aNewObject();
        states();
        actions();
        rewards();
        moves();
        discounts();
        counts();
        changesForgetWhatWasSolved();
        refusedCallsForgetNothing();
        checks.end();
    }

    private static PolicyWorks solvedLoop() {
        PolicyWorks x = new PolicyWorks();
        x.state();
        x.action(0);
        x.move(0, 0, 0, 1);
        x.reward(0, 0, 3, 1);
        x.solve();
        return x;
    }

    private static void aNewObject() {
        PolicyWorks x = new PolicyWorks();
        for (int what = 0; what < 4; what++) {
            checks.due("new: count " + what, x.count(what), 0);
        }
        checks.due("new: solve", x.solve(), PolicyWorks.BAD);
        checks.due("new: best", x.best(), false);
        checks.due("new: policy", x.policy(0), PolicyWorks.BAD);
        checks.due("new: bound", x.bound(0, 0), PolicyWorks.BAD);
        x = solvedLoop();
        // 3 / (1 - 1 / 2): the discount is 1 / 2 at first.
        checks.due("new: discount above", x.value(0, 0), 6);
        checks.due("new: discount below", x.value(0, 1), 1);
    }

    private static void states() {
        PolicyWorks x = new PolicyWorks();
        for (int s = 0; s < 6; s++) {
            checks.due("state", x.state(), s);
            checks.due("count of states", x.count(0), s + 1);
        }
        checks.due("seventh state", x.state(), PolicyWorks.BAD);
        checks.due("states stay six", x.count(0), 6);
    }

    private static void actions() {
        PolicyWorks x = new PolicyWorks();
        checks.due("action of no state", x.action(0), PolicyWorks.BAD);
        x.state();
        x.state();
        for (int a = 0; a < 4; a++) {
            checks.due("action", x.action(1), a);
        }
        checks.due("fifth action", x.action(1), PolicyWorks.BAD);
        checks.due("first action of another state", x.action(0), 0);
        checks.due("action of - 1", x.action(-1), PolicyWorks.BAD);
        checks.due("action of 2", x.action(2), PolicyWorks.BAD);
        checks.due("action of the least int", x.action(Integer.MIN_VALUE), PolicyWorks.BAD);
        checks.due("count of actions", x.count(1), 5);
    }

    private static void rewards() {
        PolicyWorks x = solvedLoop();
        checks.due("reward 1000 / 20", x.reward(0, 0, 1000, 20), true);
        x.solve();
        checks.due("worth of 50", x.value(0, 0), 100);
        checks.due("reward - 1000 / 1", x.reward(0, 0, -1000, 1), true);
        x.solve();
        checks.due("sign of - 1000", x.value(0, -1), -1);
        checks.due("worth of - 1000", x.value(0, 0), 2000);
        int[][] wrong = {
            {0, 0, 1001, 1}, {0, 0, -1001, 1}, {0, 0, 1, 0}, {0, 0, 1, 21}, {0, 0, 1, -1},
            {1, 0, 1, 1}, {-1, 0, 1, 1}, {0, 1, 1, 1}, {0, -1, 1, 1},
            {0, 0, Integer.MIN_VALUE, 1}, {0, 0, 1, Integer.MIN_VALUE}
        };
        for (int[] w : wrong) {
            checks.due("wrong reward", x.reward(w[0], w[1], w[2], w[3]), false);
        }
        checks.due("reward as before", x.value(0, 0), 2000);
    }

    private static void moves() {
        PolicyWorks x = new PolicyWorks();
        x.state();
        x.state();
        x.action(0);
        x.action(1);
        checks.due("move, weight 20", x.move(0, 0, 1, 20), true);
        checks.due("move, weight 0", x.move(0, 0, 0, 0), true);
        checks.due("move to itself", x.move(1, 0, 1, 7), true);
        x.reward(1, 0, 4, 1);
        x.solve();
        checks.due("leads to state 1 alone", x.value(0, 0), 4);
        checks.due("another weight", x.move(0, 0, 0, 20), true);
        x.solve();
        // v = (v + 8) / 4, so v = 8 / 3
        checks.due("half of it stays, above", x.value(0, 0), 8);
        checks.due("half of it stays, below", x.value(0, 1), 3);
        int[][] wrong = {
            {0, 0, 0, 21}, {0, 0, 0, -1}, {0, 0, 2, 1}, {0, 0, -1, 1}, {0, 1, 0, 1}, {0, -1, 0, 1},
            {2, 0, 0, 1}, {-1, 0, 0, 1}, {0, 0, Integer.MAX_VALUE, 1}, {Integer.MAX_VALUE, 0, 0, 1}
        };
        for (int[] w : wrong) {
            checks.due("wrong move", x.move(w[0], w[1], w[2], w[3]), false);
        }
        checks.due("weights as before", x.value(0, 1), 3);
        x.move(0, 0, 0, 0);
        x.move(0, 0, 1, 0);
        checks.due("no weight above 0 is left", x.count(3), 1);
        checks.due("so it is not ready", x.solve(), PolicyWorks.BAD);
    }

    private static void discounts() {
        PolicyWorks x = solvedLoop();
        checks.due("discount 19 / 20", x.discount(19, 20), true);
        x.solve();
        checks.due("3 by 1 / 20", x.value(0, 0), 60);
        checks.due("discount 0 / 1", x.discount(0, 1), true);
        x.solve();
        checks.due("3 alone", x.value(0, 0), 3);
        checks.due("discount not in least terms", x.discount(4, 8), true);
        x.solve();
        checks.due("3 by 1 / 2", x.value(0, 0), 6);
        int[][] wrong = {
            {1, 1}, {2, 1}, {-1, 2}, {0, 0}, {0, -1}, {-2, -1}, {1, 21}, {20, 20}, {20, 21},
            {Integer.MIN_VALUE, 1}, {0, Integer.MAX_VALUE}
        };
        for (int[] w : wrong) {
            checks.due("wrong discount", x.discount(w[0], w[1]), false);
        }
        checks.due("discount as before", x.value(0, 0), 6);
    }

    private static void counts() {
        PolicyWorks x = solvedLoop();
        x.state();
        x.action(0);
        x.action(1);
        x.action(1);
        x.move(1, 1, 0, 1);
        checks.due("states", x.count(0), 2);
        checks.due("actions", x.count(1), 4);
        checks.due("rounds are gone", x.count(2), 0);
        checks.due("ready actions", x.count(3), 2);
        x.move(0, 1, 0, 1);
        x.move(1, 0, 1, 1);
        x.reward(0, 1, 5, 1);
        checks.due("solve", x.solve(), 2);
        checks.due("rounds", x.count(2), 2);
        checks.due("all are ready", x.count(3), 4);
        checks.due("count 4", x.count(4), PolicyWorks.BAD);
        checks.due("count - 1", x.count(-1), PolicyWorks.BAD);
        checks.due("count of the least int", x.count(Integer.MIN_VALUE), PolicyWorks.BAD);
    }

    private static void gone(String by, PolicyWorks x) {
        checks.due(by + ": count 2", x.count(2), 0);
        checks.due(by + ": policy", x.policy(0), PolicyWorks.BAD);
        checks.due(by + ": value", x.value(0, 0), PolicyWorks.BAD);
        checks.due(by + ": sign of value", x.value(0, -1), PolicyWorks.NONE);
        checks.due(by + ": gain", x.gain(0, 0, 0), PolicyWorks.BAD);
        checks.due(by + ": best", x.best(), false);
    }

    private static void changesForgetWhatWasSolved() {
        PolicyWorks x = solvedLoop();
        x.state();
        gone("state", x);
        x = solvedLoop();
        x.action(0);
        gone("action", x);
        x = solvedLoop();
        x.reward(0, 0, 3, 1);
        gone("the same reward", x);
        x = solvedLoop();
        x.move(0, 0, 0, 1);
        gone("the same move", x);
        x = solvedLoop();
        x.discount(1, 2);
        gone("the same discount", x);
    }

    private static void refusedCallsForgetNothing() {
        PolicyWorks x = solvedLoop();
        for (int s = 1; s < 6; s++) {
            x.state();
            x.action(s);
            x.move(s, 0, 0, 1);
        }
        x.action(0);
        x.action(0);
        x.action(0);
        for (int a = 1; a < 4; a++) {
            x.move(0, a, 0, 1);
        }
        int rounds = x.solve();
        x.state();
        x.action(0);
        x.action(6);
        x.reward(0, 0, 1001, 1);
        x.move(0, 0, 0, 21);
        x.discount(1, 1);
        checks.due("still solved", x.count(2), rounds);
        checks.due("still the value", x.value(0, 0), 6);
        checks.due("still best", x.best(), true);
    }
}
