/** Promises 1 to 6 and 16: a test for each sentence that names an edge. */
final class BuildingEdgesTest {
    private static final Checks checks = new Checks();
    private static final int[] FAR = {Integer.MIN_VALUE, Integer.MIN_VALUE + 1, Integer.MAX_VALUE - 1, Integer.MAX_VALUE};

    public static void main(String[] args) {
        newObjectHasNoStates();
        newObjectHasDiscountOneHalf();
        stateTellsWhichOne();
        stateIsBadIfThereAreSix();
        actionTellsWhichOne();
        actionIsBadIfNoneSuch();
        actionIsBadIfItHasFour();
        rewardIsNothingAtFirst();
        rewardAboveFromMinus1000To1000();
        rewardBelowFrom1To20();
        rewardIsFalseIfNoneSuch();
        weightsAreNothingAtFirst();
        weightsFrom0To20();
        moveIsFalseIfNoneSuch();
        moveSetsAndDoesNotAdd();
        discountFrom0();
        discountIsBelow1();
        discountBelowUpTo20();
        countOfNothing();
        countOfAllThatThereMayBe();
        countOfRounds();
        countOfReadyActions();
        countIsBadForAnotherNumber();
        objectsKeepApart();
        checks.end();
    }

    private interface Call {
        boolean on(PolicyWorks x);
    }

    /** The answer is false, and nothing is changed: what was solved is still there. */
    private static void refused(String what, Call call) {
        PolicyWorks x = Models.pair();
        x.solve();
        String before = Models.picture(x, 2, 2);
        checks.due(what, call.on(x), false);
        checks.due(what + " changed nothing", Models.picture(x, 2, 2).equals(before), true);
    }

    /** What one state with one action is worth under this reward, behind a discount of 1 / 2. */
    private static void rewarded(int above, int below, long sign, long valueAbove, long valueBelow) {
        PolicyWorks x = Models.loops(7);
        checks.due("reward " + above + " / " + below, x.reward(0, 0, above, below), true);
        x.solve();
        checks.told("value by " + above + " / " + below, part -> x.value(0, part), sign, valueAbove, valueBelow);
    }

    private static void newObjectHasNoStates() {
        checks.sentence("1: No states");
        PolicyWorks x = new PolicyWorks();
        for (int what = 0; what < 4; what++) {
            checks.due("count " + what, x.count(what), 0);
        }
        checks.due("action", x.action(0), PolicyWorks.BAD);
        checks.due("reward", x.reward(0, 0, 1, 1), false);
        checks.due("move", x.move(0, 0, 0, 1), false);
        checks.due("solve", x.solve(), PolicyWorks.BAD);
        checks.due("policy", x.policy(0), PolicyWorks.BAD);
        checks.refused("value", part -> x.value(0, part));
        checks.refused("gain", part -> x.gain(0, 0, part));
        checks.refused("worth", part -> x.worth(0, 0, part));
        checks.refused("steps", part -> x.steps(0, 0, part));
        checks.due("plan", x.plan(1, 0), PolicyWorks.BAD);
        checks.refused("bound", part -> x.bound(0, part));
        checks.due("best", x.best(), false);
        checks.due("still no state", x.count(0), 0);
        checks.due("the first state", x.state(), 0);
    }

    private static void newObjectHasDiscountOneHalf() {
        checks.sentence("1: discount 1 / 2");
        PolicyWorks x = Models.loops(1);
        x.solve();
        checks.told("value", part -> x.value(0, part), 1, 2, 1);
        checks.told("two steps", part -> x.steps(2, 0, part), 1, 3, 2);
        checks.told("bound of 3", part -> x.bound(3, part), 1, 1, 4);
    }

    private static void stateTellsWhichOne() {
        checks.sentence("2: One more state: which one");
        PolicyWorks x = new PolicyWorks();
        for (int s = 0; s < 6; s++) {
            checks.due("state", x.state(), s);
            checks.due("count", x.count(0), s + 1);
            checks.due("it has no action yet", x.action(s), 0);
        }
    }

    private static void stateIsBadIfThereAreSix() {
        checks.sentence("2: BAD: there are 6");
        PolicyWorks x = Models.full();
        x.solve();
        String before = Models.picture(x, 6, 4);
        checks.due("seventh state", x.state(), PolicyWorks.BAD);
        checks.due("eighth state", x.state(), PolicyWorks.BAD);
        checks.due("nothing is changed", Models.picture(x, 6, 4).equals(before), true);
        checks.due("no action of a seventh", x.action(6), PolicyWorks.BAD);
        checks.due("no move to a seventh", x.move(5, 3, 6, 1), false);
        checks.due("a move to the sixth", x.move(5, 3, 5, 1), true);
    }

    private static void actionTellsWhichOne() {
        checks.sentence("3: One more action of a state: which one");
        PolicyWorks x = Models.bare(6, 0);
        for (int a = 0; a < 4; a++) {
            for (int s = 5; s >= 0; s--) {
                checks.due("action of " + s, x.action(s), a);
            }
            checks.due("count", x.count(1), 6 * (a + 1));
        }
    }

    private static void actionIsBadIfNoneSuch() {
        checks.sentence("3: BAD: none such");
        PolicyWorks x = Models.pair();
        x.solve();
        String before = Models.picture(x, 2, 2);
        checks.due("action of - 1", x.action(-1), PolicyWorks.BAD);
        checks.due("action of 2, of two states", x.action(2), PolicyWorks.BAD);
        for (int far : FAR) {
            checks.due("action of " + far, x.action(far), PolicyWorks.BAD);
        }
        checks.due("nothing is changed", Models.picture(x, 2, 2).equals(before), true);
        checks.due("action of 1, of two states", x.action(1), 2);
        checks.due("action of 0", x.action(0), 2);
    }

    private static void actionIsBadIfItHasFour() {
        checks.sentence("3: BAD: it has 4");
        PolicyWorks x = Models.full();
        x.solve();
        String before = Models.picture(x, 6, 4);
        for (int s = 0; s < 6; s++) {
            checks.due("fifth action of " + s, x.action(s), PolicyWorks.BAD);
        }
        checks.due("nothing is changed", Models.picture(x, 6, 4).equals(before), true);
        PolicyWorks y = Models.bare(2, 3);
        checks.due("fourth action", y.action(0), 3);
        checks.due("fifth action", y.action(0), PolicyWorks.BAD);
        checks.due("fourth action of another state", y.action(1), 3);
    }

    private static void rewardIsNothingAtFirst() {
        checks.sentence("Terms: a REWARD, a fraction (0 at first)");
        PolicyWorks x = Models.bare(1, 1);
        x.move(0, 0, 0, 1);
        x.solve();
        checks.told("value", part -> x.value(0, part), 0, 0, 1);
        checks.told("gain", part -> x.gain(0, 0, part), 0, 0, 1);
        checks.told("one step", part -> x.steps(1, 0, part), 0, 0, 1);
    }

    private static void rewardAboveFromMinus1000To1000() {
        checks.sentence("4: above - 1,000 .. 1,000");
        rewarded(1000, 1, 1, 2000, 1);
        rewarded(999, 1, 1, 1998, 1);
        rewarded(-1000, 1, -1, 2000, 1);
        rewarded(-999, 1, -1, 1998, 1);
        rewarded(0, 1, 0, 0, 1);
        refused("1001", x -> x.reward(0, 0, 1001, 1));
        refused("- 1001", x -> x.reward(0, 0, -1001, 1));
        refused("1001 / 20", x -> x.reward(1, 1, 1001, 20));
        refused("- 1001 / 20", x -> x.reward(1, 1, -1001, 20));
        for (int far : FAR) {
            refused("above " + far, x -> x.reward(0, 0, far, 1));
        }
    }

    private static void rewardBelowFrom1To20() {
        checks.sentence("4: below 1 .. 20");
        rewarded(3, 1, 1, 6, 1);
        rewarded(3, 20, 1, 3, 10);
        rewarded(3, 19, 1, 6, 19);
        rewarded(-1000, 20, -1, 100, 1);
        rewarded(1000, 20, 1, 100, 1);
        refused("below 0", x -> x.reward(0, 0, 3, 0));
        refused("0 / 0", x -> x.reward(0, 0, 0, 0));
        refused("below - 1", x -> x.reward(0, 0, 3, -1));
        refused("below 21", x -> x.reward(0, 0, 3, 21));
        for (int far : FAR) {
            refused("below " + far, x -> x.reward(0, 0, 3, far));
        }
        allLowerPartsAtOnce();
    }

    private static void allLowerPartsAtOnce() {
        PolicyWorks x = Models.full();
        for (int i = 0; i < 24; i++) {
            checks.due("1 / " + (1 + i % 20), x.reward(i / 4, i % 4, 1, 1 + i % 20), true);
        }
        for (int s = 0; s < 6; s++) {
            int state = s;
            checks.told("one step of " + s, part -> x.steps(1, state, part), 1, 1, 1 + 4 * s % 20);
        }
    }

    private static void rewardIsFalseIfNoneSuch() {
        checks.sentence("4: False: none such");
        refused("state - 1", x -> x.reward(-1, 0, 3, 1));
        refused("state 2, of two", x -> x.reward(2, 0, 3, 1));
        refused("action - 1", x -> x.reward(1, -1, 3, 1));
        refused("action 2, of two", x -> x.reward(0, 2, 3, 1));
        refused("action 4", x -> x.reward(0, 4, 3, 1));
        for (int far : FAR) {
            refused("state " + far, x -> x.reward(far, 0, 3, 1));
            refused("action " + far, x -> x.reward(0, far, 3, 1));
        }
        PolicyWorks x = Models.bare(2, 1);
        x.action(0);
        checks.due("the last action of a state", x.reward(0, 1, 3, 1), true);
        checks.due("another state has fewer", x.reward(1, 1, 3, 1), false);
        checks.due("the last state", x.reward(1, 0, 3, 1), true);
    }

    private static void weightsAreNothingAtFirst() {
        checks.sentence("Terms: WEIGHTS to states (0 at first)");
        PolicyWorks x = Models.loops(5);
        x.state();
        x.action(1);
        checks.due("a new action is not ready", x.count(3), 1);
        checks.due("so not all is", x.solve(), PolicyWorks.BAD);
        x.move(1, 0, 1, 1);
        x.solve();
        checks.told("nothing led to a new state before", part -> x.value(0, part), 1, 10, 1);
        checks.told("nothing leads from it to others", part -> x.value(1, part), 0, 0, 1);
    }

    private static void weightsFrom0To20() {
        checks.sentence("Terms: WEIGHTS 0 .. 20");
        // State 0 earns 1 and stays by 20 of 21, state 1 is worth nothing: v = 1 + v 10 / 21.
        PolicyWorks x = Models.bare(2, 1);
        x.reward(0, 0, 1, 1);
        x.move(1, 0, 1, 1);
        checks.due("weight 1", x.move(0, 0, 1, 1), true);
        checks.due("weight 20", x.move(0, 0, 0, 20), true);
        x.solve();
        checks.told("20 of 21", part -> x.value(0, part), 1, 21, 11);
        checks.due("weight 0", x.move(0, 0, 1, 0), true);
        x.solve();
        checks.told("20 of 20", part -> x.value(0, part), 1, 2, 1);
        checks.due("weight 19", x.move(0, 0, 0, 19), true);
        refused("weight 21", y -> y.move(0, 0, 0, 21));
        refused("weight - 1", y -> y.move(0, 0, 0, -1));
        refused("weight 21 to another", y -> y.move(1, 1, 0, 21));
        refused("weight - 1 to another", y -> y.move(1, 1, 0, -1));
        for (int far : FAR) {
            refused("weight " + far, y -> y.move(0, 0, 0, far));
        }
    }

    private static void moveIsFalseIfNoneSuch() {
        checks.sentence("5: False: none such");
        refused("state - 1", x -> x.move(-1, 0, 0, 1));
        refused("state 2, of two", x -> x.move(2, 0, 0, 1));
        refused("action - 1", x -> x.move(1, -1, 0, 1));
        refused("action 2, of two", x -> x.move(0, 2, 0, 1));
        refused("action 4", x -> x.move(0, 4, 0, 1));
        refused("to - 1", x -> x.move(0, 0, -1, 1));
        refused("to 2, of two", x -> x.move(0, 0, 2, 1));
        refused("to 2 with weight 0", x -> x.move(0, 0, 2, 0));
        refused("to 6", x -> x.move(0, 0, 6, 1));
        for (int far : FAR) {
            refused("state " + far, x -> x.move(far, 0, 0, 1));
            refused("action " + far, x -> x.move(0, far, 0, 1));
            refused("to " + far, x -> x.move(0, 0, far, 1));
        }
        PolicyWorks x = Models.bare(2, 1);
        x.action(0);
        checks.due("the last action of a state", x.move(0, 1, 0, 1), true);
        checks.due("another state has fewer", x.move(1, 1, 0, 1), false);
        checks.due("to the last state", x.move(0, 0, 1, 1), true);
        x.state();
        checks.due("to one that was made later", x.move(0, 0, 2, 1), true);
    }

    private static void moveSetsAndDoesNotAdd() {
        checks.sentence("5: An action's weight to a state");
        PolicyWorks x = Models.bare(2, 1);
        x.reward(0, 0, 1, 1);
        x.move(1, 0, 1, 1);
        x.move(0, 0, 1, 1);
        for (int i = 0; i < 3; i++) {
            x.move(0, 0, 0, 1);
        }
        x.solve();
        // v = 1 + v / 4
        checks.told("1 of 2", part -> x.value(0, part), 1, 4, 3);
    }

    /** What a reward of 1 in a loop is worth. */
    private static void discounted(int above, int below, long valueAbove, long valueBelow) {
        PolicyWorks x = Models.loops(1);
        checks.due("discount " + above + " / " + below, x.discount(above, below), true);
        x.solve();
        checks.told("value by " + above + " / " + below, part -> x.value(0, part), 1, valueAbove, valueBelow);
    }

    private static void discountFrom0() {
        checks.sentence("6: 0 <= above");
        discounted(0, 1, 1, 1);
        discounted(0, 20, 1, 1);
        discounted(1, 20, 20, 19);
        refused("- 1 / 2", x -> x.discount(-1, 2));
        refused("- 1 / 20", x -> x.discount(-1, 20));
        refused("- 1 / 0", x -> x.discount(-1, 0));
        refused("- 2 / - 1", x -> x.discount(-2, -1));
        refused("the least int / 1", x -> x.discount(Integer.MIN_VALUE, 1));
    }

    private static void discountIsBelow1() {
        checks.sentence("6: above < below");
        for (int below = 1; below <= 20; below++) {
            discounted(below - 1, below, below, 1);
            int b = below;
            refused(b + " / " + b, x -> x.discount(b, b));
            refused(b + 1 + " / " + b, x -> x.discount(b + 1, b));
        }
        refused("0 / 0", x -> x.discount(0, 0));
        refused("1 / 0", x -> x.discount(1, 0));
        refused("0 / - 1", x -> x.discount(0, -1));
        refused("0 / the least int", x -> x.discount(0, Integer.MIN_VALUE));
        refused("the greatest int / 20", x -> x.discount(Integer.MAX_VALUE, 20));
    }

    private static void discountBelowUpTo20() {
        checks.sentence("6: below <= 20");
        discounted(19, 20, 20, 1);
        discounted(10, 20, 2, 1);
        refused("0 / 21", x -> x.discount(0, 21));
        refused("1 / 21", x -> x.discount(1, 21));
        refused("20 / 21", x -> x.discount(20, 21));
        refused("7 / 21", x -> x.discount(7, 21));
        refused("0 / the greatest int", x -> x.discount(0, Integer.MAX_VALUE));
        PolicyWorks x = new PolicyWorks();
        checks.due("without any state", x.discount(3, 4), true);
        checks.due("refused without any state", x.discount(4, 4), false);
        x.state();
        x.action(0);
        x.move(0, 0, 0, 1);
        x.reward(0, 0, 1, 1);
        x.solve();
        checks.told("it is kept", part -> x.value(0, part), 1, 4, 1);
    }

    private static void countOfNothing() {
        checks.sentence("16: 0 states, 1 actions in all");
        PolicyWorks x = new PolicyWorks();
        checks.due("no states", x.count(0), 0);
        checks.due("no actions", x.count(1), 0);
        x.state();
        checks.due("one state", x.count(0), 1);
        checks.due("without action", x.count(1), 0);
        x.state();
        x.action(1);
        checks.due("two states", x.count(0), 2);
        checks.due("one action", x.count(1), 1);
        checks.due("that is not ready", x.count(3), 0);
    }

    private static void countOfAllThatThereMayBe() {
        checks.sentence("16: as many as there may be");
        PolicyWorks x = Models.full();
        checks.due("states", x.count(0), 6);
        checks.due("actions", x.count(1), 24);
        checks.due("ready", x.count(3), 24);
        x.move(5, 3, 5, 0);
        checks.due("one weight less", x.count(3), 24);
        x.move(5, 3, 2, 0);
        checks.due("one ready action less", x.count(3), 23);
        checks.due("actions are as many", x.count(1), 24);
    }

    private static void countOfRounds() {
        checks.sentence("16: 2 rounds of the last solve() (0 if it is gone)");
        PolicyWorks x = Models.loops(1, 2);
        checks.due("never solved", x.count(2), 0);
        x.solve();
        checks.due("solved", x.count(2), 2);
        x.solve();
        checks.due("solved again", x.count(2), 2);
        x.reward(0, 1, 1, 1);
        checks.due("gone", x.count(2), 0);
        x.solve();
        checks.due("the last one counts", x.count(2), 1);
        x.action(0);
        checks.due("gone again", x.count(2), 0);
        x.solve();
        checks.due("refused", x.count(2), 0);
    }

    private static void countOfReadyActions() {
        checks.sentence("16: 3 actions that are ready; Terms: READY, if some weight is above 0");
        PolicyWorks x = Models.bare(2, 2);
        checks.due("none", x.count(3), 0);
        x.move(0, 0, 0, 0);
        checks.due("weight 0", x.count(3), 0);
        x.move(0, 0, 1, 1);
        checks.due("weight 1", x.count(3), 1);
        x.move(0, 0, 0, 20);
        checks.due("two weights", x.count(3), 1);
        x.move(0, 0, 1, 0);
        checks.due("one of them is left", x.count(3), 1);
        x.move(0, 0, 0, 0);
        checks.due("none is left", x.count(3), 0);
        x.reward(0, 0, 5, 1);
        checks.due("a reward makes none ready", x.count(3), 0);
        x.move(1, 1, 0, 20);
        checks.due("one of the last state", x.count(3), 1);
    }

    private static void countIsBadForAnotherNumber() {
        checks.sentence("16: BAD: another number");
        for (PolicyWorks x : new PolicyWorks[] {new PolicyWorks(), Models.pair()}) {
            checks.due("- 1", x.count(-1), PolicyWorks.BAD);
            checks.due("4", x.count(4), PolicyWorks.BAD);
            checks.due("- 2", x.count(-2), PolicyWorks.BAD);
            checks.due("5", x.count(5), PolicyWorks.BAD);
            for (int far : FAR) {
                checks.due("count " + far, x.count(far), PolicyWorks.BAD);
            }
        }
    }

    private static void objectsKeepApart() {
        checks.sentence("1: A new object");
        PolicyWorks x = Models.pair();
        x.discount(19, 20);
        x.solve();
        String before = Models.picture(x, 2, 2);
        PolicyWorks y = Models.loops(1);
        y.solve();
        checks.told("a later one has its own discount", part -> y.value(0, part), 1, 2, 1);
        y.state();
        checks.due("an earlier one keeps all", Models.picture(x, 2, 2).equals(before), true);
    }
}
