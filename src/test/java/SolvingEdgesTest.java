/** Promises 7 to 10 and 15: a test for each sentence that names an edge. */
final class SolvingEdgesTest {
    private static final Checks checks = new Checks();
    private static final int[] FAR = {Integer.MIN_VALUE, -2, -1, Integer.MAX_VALUE - 1, Integer.MAX_VALUE};

    public static void main(String[] args) {
        readyNeedsAState();
        readyNeedsAnActionOfEach();
        readyNeedsAllActionsReady();
        solvingTakesOneRoundAtLeast();
        solvingTakesSomeRounds();
        solvingBeginsWithTheFirstActions();
        firstActionMayComeBack();
        ownActionStaysIfAsGreat();
        elseTheLeastOfThose();
        policyIsBadIfNotSolved();
        policyIsBadIfNoneSuch();
        valueIsRefusedIfNotSolved();
        valueIsRefusedIfNoneSuch();
        gainIsRefusedIfNotSolved();
        gainIsRefusedIfNoneSuch();
        bestIsFalseIfNotSolved();
        bestWhereBoundsAreMetExactly();
        bestWhereAllIsNothing();
        bestWithoutAnyLater();
        bestOfAllThatThereMayBe();
        checks.end();
    }

    private static void notAllReady(String what, PolicyWorks x) {
        checks.due(what + ": solve", x.solve(), PolicyWorks.BAD);
        checks.due(what + ": rounds", x.count(2), 0);
        checks.due(what + ": best", x.best(), false);
        checks.due(what + ": policy", x.policy(0), PolicyWorks.BAD);
        checks.refused(what + ": value", part -> x.value(0, part));
        checks.refused(what + ": gain", part -> x.gain(0, 0, part));
        checks.refused(what + ": worth", part -> x.worth(0, 0, part));
        checks.refused(what + ": steps", part -> x.steps(0, 0, part));
        checks.refused(what + ": bound", part -> x.bound(0, part));
        checks.due(what + ": plan", x.plan(1, 0), PolicyWorks.BAD);
    }

    private static void readyNeedsAState() {
        checks.sentence("7: BAD: not all is ready; Terms: if there is a state");
        PolicyWorks x = new PolicyWorks();
        notAllReady("no state", x);
        x.state();
        x.action(0);
        x.move(0, 0, 0, 1);
        checks.due("one state", x.solve(), 1);
    }

    private static void readyNeedsAnActionOfEach() {
        checks.sentence("7: BAD: not all is ready; Terms: each has an action");
        notAllReady("one state without", Models.bare(1, 0));
        for (int without = 0; without < 3; without++) {
            PolicyWorks x = Models.bare(3, 0);
            for (int s = 0; s < 3; s++) {
                if (s != without) {
                    x.action(s);
                    x.move(s, 0, s, 1);
                }
            }
            notAllReady("state " + without + " without", x);
            x.action(without);
            x.move(without, 0, without, 1);
            checks.due("all with one", x.solve(), 1);
        }
    }

    private static void readyNeedsAllActionsReady() {
        checks.sentence("7: BAD: not all is ready; Terms: all actions are ready");
        for (int s = 0; s < 6; s++) {
            for (int a = 0; a < 4; a++) {
                PolicyWorks x = Models.bare(6, 4);
                for (int i = 0; i < 24; i++) {
                    if (i != s * 4 + a) {
                        x.move(i / 4, i % 4, 5 - i / 4, 1);
                    }
                }
                notAllReady("action " + a + " of " + s, x);
                x.move(s, a, 0, 1);
                checks.due("all are", x.solve(), 1);
            }
        }
    }

    private static void solvingTakesOneRoundAtLeast() {
        checks.sentence("7: how many rounds there were; Terms: If nothing was changed, that is the end");
        PolicyWorks x = Models.loops(9, 8);
        checks.due("nothing to better", x.solve(), 1);
        checks.due("once more", x.solve(), 1);
        PolicyWorks y = Models.loops(8, 9);
        checks.due("one round betters, one finds nothing", y.solve(), 2);
        checks.due("it begins anew each time", y.solve(), 2);
    }

    /** Only the last state earns, and each round lets one state more see it: as many rounds as states, and one. */
    private static PolicyWorks chain(int states) {
        PolicyWorks x = Models.bare(states, 2);
        for (int s = 0; s < states; s++) {
            x.move(s, 0, s, 1);
            x.move(s, 1, Math.min(s + 1, states - 1), 1);
        }
        x.reward(states - 1, 1, 32, 1);
        return x;
    }

    private static void solvingTakesSomeRounds() {
        checks.sentence("7: how many rounds there were");
        for (int states = 1; states <= 6; states++) {
            PolicyWorks x = chain(states);
            checks.due("rounds of " + states, x.solve(), states + 1);
            checks.due("count 2", x.count(2), states + 1);
            for (int s = 0; s < states; s++) {
                int state = s;
                checks.due("policy", x.policy(s), 1);
                checks.told("value", part -> x.value(state, part), 1, 64 >> states - 1 - s, 1);
            }
            checks.due("best", x.best(), true);
        }
    }

    private static void solvingBeginsWithTheFirstActions() {
        checks.sentence("Terms: SOLVING begins with the first action of each state");
        PolicyWorks x = Models.loops(1, 1, 1, 2);
        checks.due("from 0 to 3", x.solve(), 2);
        checks.due("the last one", x.policy(0), 3);
        // From the last one on, there would be nothing to better; the first one is as great again.
        x.reward(0, 0, 2, 1);
        checks.due("begins with 0", x.solve(), 1);
        checks.due("and ends there", x.policy(0), 0);
    }

    private static void firstActionMayComeBack() {
        checks.sentence("Terms: the action with the greatest gain");
        // Round 1 leaves action 0 of state 0, as state 1 is worth nothing; round 2 finds 4 there, and takes it again.
        PolicyWorks x = Models.crossing(2);
        checks.due("rounds", x.solve(), 3);
        checks.due("the first one again", x.policy(0), 0);
        checks.told("value", part -> x.value(0, part), 1, 5, 1);
        checks.told("gain of the one between", part -> x.gain(0, 1, part), 1, 9, 2);
    }

    private static void ownActionStaysIfAsGreat() {
        checks.sentence("Terms: its own one, if that is as great as any");
        PolicyWorks same = Models.loops(5, 5, 5, 5);
        checks.due("all alike", same.solve(), 1);
        checks.due("the first stays", same.policy(0), 0);
        // Round 1 leaves 0 for 1; when state 1 is bettered too, 0 is as great as 1, which stays.
        PolicyWorks x = Models.crossing(1);
        checks.due("rounds", x.solve(), 2);
        checks.due("a later one stays too", x.policy(0), 1);
        checks.told("gain of the first", part -> x.gain(0, 0, part), 1, 4, 1);
        checks.told("gain of its own", part -> x.gain(0, 1, part), 1, 4, 1);
    }

    private static void elseTheLeastOfThose() {
        checks.sentence("Terms: else the least one of those");
        int[][] rewards = {{1, 7, 3, 7}, {1, 3, 7, 7}, {1, 7, 7, 7}, {1, 7, 7, 3}, {1, 2, 3, 4}, {1, 4, 3, 2}};
        int[] due = {1, 2, 1, 1, 3, 1};
        for (int i = 0; i < due.length; i++) {
            PolicyWorks x = Models.loops(rewards[i]);
            checks.due("rounds", x.solve(), 2);
            checks.due("row " + i, x.policy(0), due[i]);
        }
    }

    private static void policyIsBadIfNotSolved() {
        checks.sentence("8: BAD: not solved");
        PolicyWorks x = Models.loops(1, 2);
        checks.due("ready, not solved", x.policy(0), PolicyWorks.BAD);
        x.solve();
        checks.due("solved", x.policy(0), 1);
        x.discount(1, 2);
        checks.due("gone", x.policy(0), PolicyWorks.BAD);
        x.action(0);
        x.solve();
        checks.due("not ready", x.policy(0), PolicyWorks.BAD);
    }

    private static void policyIsBadIfNoneSuch() {
        checks.sentence("8: BAD: none such");
        PolicyWorks x = chain(3);
        x.solve();
        checks.due("the first state", x.policy(0), 1);
        checks.due("the last state", x.policy(2), 1);
        checks.due("3, of three", x.policy(3), PolicyWorks.BAD);
        checks.due("6", x.policy(6), PolicyWorks.BAD);
        PolicyWorks full = Models.full();
        full.solve();
        checks.due("5, of six", full.policy(5) >= 0, true);
        checks.due("6, of six", full.policy(6), PolicyWorks.BAD);
        for (int far : FAR) {
            checks.due("state " + far, x.policy(far), PolicyWorks.BAD);
            checks.due("state " + far + " of six", full.policy(far), PolicyWorks.BAD);
        }
    }

    private static void valueIsRefusedIfNotSolved() {
        checks.sentence("9: BAD (part - 1: NONE): not solved");
        PolicyWorks x = Models.loops(-3);
        checks.refused("ready, not solved", part -> x.value(0, part));
        x.solve();
        checks.told("solved", part -> x.value(0, part), -1, 6, 1);
        x.reward(0, 0, -3, 1);
        checks.refused("gone", part -> x.value(0, part));
    }

    private static void valueIsRefusedIfNoneSuch() {
        checks.sentence("9: BAD (part - 1: NONE): none such");
        PolicyWorks x = chain(3);
        x.solve();
        checks.told("the first state", part -> x.value(0, part), 1, 16, 1);
        checks.told("the last state", part -> x.value(2, part), 1, 64, 1);
        checks.refused("3, of three", part -> x.value(3, part));
        checks.refused("6", part -> x.value(6, part));
        PolicyWorks full = Models.full();
        full.solve();
        checks.due("5, of six", full.value(5, 1) > 0, true);
        checks.refused("6, of six", part -> full.value(6, part));
        for (int far : FAR) {
            checks.refused("state " + far, part -> x.value(far, part));
        }
    }

    private static void gainIsRefusedIfNotSolved() {
        checks.sentence("10: BAD (part - 1: NONE): not solved");
        PolicyWorks x = Models.loops(4, -3);
        checks.refused("ready, not solved", part -> x.gain(0, 0, part));
        x.solve();
        checks.told("of the policy's", part -> x.gain(0, 0, part), 1, 8, 1);
        checks.told("of the other", part -> x.gain(0, 1, part), 1, 1, 1);
        x.move(0, 0, 0, 1);
        checks.refused("gone", part -> x.gain(0, 1, part));
    }

    private static void gainIsRefusedIfNoneSuch() {
        checks.sentence("10: BAD (part - 1: NONE): none such");
        PolicyWorks x = chain(3);
        x.action(1);
        x.move(1, 2, 2, 1);
        x.reward(1, 2, -40, 1);
        x.solve();
        checks.told("the first action", part -> x.gain(1, 0, part), 1, 16, 1);
        checks.told("the last action", part -> x.gain(1, 2, part), -1, 8, 1);
        checks.refused("3, of three", part -> x.gain(1, 3, part));
        checks.refused("2, of two", part -> x.gain(0, 2, part));
        checks.refused("2, of two, of the last state", part -> x.gain(2, 2, part));
        checks.refused("state 3, of three", part -> x.gain(3, 0, part));
        checks.refused("state 6", part -> x.gain(6, 0, part));
        for (int far : FAR) {
            checks.refused("state " + far, part -> x.gain(far, 0, part));
            checks.refused("action " + far, part -> x.gain(1, far, part));
        }
        PolicyWorks full = Models.full();
        full.solve();
        checks.due("3, of four", full.gain(5, 3, 1) > 0, true);
        checks.refused("4, of four", part -> full.gain(5, 4, part));
        checks.refused("4, of four, of the first state", part -> full.gain(0, 4, part));
    }

    private static void bestIsFalseIfNotSolved() {
        checks.sentence("15: False also: not solved");
        PolicyWorks x = new PolicyWorks();
        checks.due("new", x.best(), false);
        x.state();
        x.action(0);
        checks.due("not ready", x.best(), false);
        x.move(0, 0, 0, 1);
        checks.due("ready", x.best(), false);
        x.worth(0, 0, 0);
        x.steps(8, 0, 0);
        checks.due("asked for much", x.best(), false);
        x.solve();
        checks.due("solved", x.best(), true);
        x.state();
        checks.due("gone", x.best(), false);
        x.solve();
        checks.due("solving was refused", x.best(), false);
    }

    private static void bestWhereBoundsAreMetExactly() {
        checks.sentence("15: values behind 0 .. 4 steps are not farther from them than bound() tells");
        for (int reward : new int[] {1, -1, 1000, -1000}) {
            for (int below = 1; below <= 20; below++) {
                PolicyWorks x = Models.loops(reward);
                x.discount(below - 1, below);
                x.solve();
                // In a loop the distance is all that comes later, and that is the bound itself.
                checks.due("as far as the bound", x.best(), true);
                checks.due("the bound of 0 is the value", x.bound(0, 0), x.value(0, 0));
            }
        }
    }

    private static void bestWhereAllIsNothing() {
        checks.sentence("15: values and bounds of 0");
        PolicyWorks x = Models.loops(0, 0);
        x.solve();
        checks.due("all is 0", x.best(), true);
        checks.told("bound", part -> x.bound(0, part), 0, 0, 1);
    }

    private static void bestWithoutAnyLater() {
        checks.sentence("15: discount 0");
        PolicyWorks x = Models.pair();
        x.discount(0, 1);
        x.solve();
        checks.due("first rewards alone", x.best(), true);
        checks.told("value", part -> x.value(1, part), 1, 2, 1);
        checks.told("value and one step are the same", part -> x.steps(1, 1, part), 1, 2, 1);
        checks.told("bound of 1", part -> x.bound(1, part), 0, 0, 1);
    }

    private static void bestOfAllThatThereMayBe() {
        checks.sentence("15: all states and actions");
        PolicyWorks x = Models.full();
        for (int below = 1; below <= 20; below++) {
            x.discount(below - 1, below);
            checks.due("not solved", x.best(), false);
            x.solve();
            checks.due("solved", x.best(), true);
        }
    }
}
