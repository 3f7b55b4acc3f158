/** Promises 7 to 11 and 15: solving, and what is known once it is done. */
final class SolvingTest {
    private static final Checks checks = new Checks();

    public static void main(String[] args) {
        notReady();
        beginsWithTheFirstActions();
        ownActionStaysIfAsGreat();
        leastOfTheGreatest();
        twoStatesByHand();
        wrongArguments();
        worthTakesTheLastAction();
        bestIsFalseUnlessSolved();
        checks.end();
    }

    private static PolicyWorks loops(int... rewards) {
        PolicyWorks x = new PolicyWorks();
        x.state();
        for (int a = 0; a < rewards.length; a++) {
            x.action(0);
            x.move(0, a, 0, 1);
            x.reward(0, a, rewards[a], 1);
        }
        return x;
    }

    private static long[] value(PolicyWorks x, int state) {
        return new long[] {x.value(state, -1), x.value(state, 0), x.value(state, 1)};
    }

    private static long[] gain(PolicyWorks x, int state, int action) {
        return new long[] {x.gain(state, action, -1), x.gain(state, action, 0), x.gain(state, action, 1)};
    }

    private static long[] worth(PolicyWorks x, int k, int state) {
        return new long[] {x.worth(k, state, -1), x.worth(k, state, 0), x.worth(k, state, 1)};
    }

    private static void notReady() {
        PolicyWorks x = new PolicyWorks();
        checks.due("no state", x.solve(), PolicyWorks.BAD);
        x.state();
        checks.due("no action", x.solve(), PolicyWorks.BAD);
        x.action(0);
        checks.due("no weight", x.solve(), PolicyWorks.BAD);
        x.move(0, 0, 0, 1);
        checks.due("ready", x.solve(), 1);
        x.action(0);
        checks.due("an action that is never taken must be ready too", x.solve(), PolicyWorks.BAD);
        checks.due("worth", x.worth(0, 0, 0), PolicyWorks.BAD);
        x.move(0, 1, 0, 1);
        x.state();
        checks.due("a state without action", x.solve(), PolicyWorks.BAD);
        checks.due("sign of worth", x.worth(0, 0, -1), PolicyWorks.NONE);
    }

    private static void beginsWithTheFirstActions() {
        PolicyWorks x = loops(1, 7);
        checks.due("solve", x.solve(), 2);
        x.reward(0, 1, 8, 1);
        checks.due("begins anew behind a change", x.solve(), 2);
        x.reward(0, 0, 8, 1);
        checks.due("the first one is as great", x.solve(), 1);
        checks.due("so it stays", x.policy(0), 0);
    }

    private static void ownActionStaysIfAsGreat() {
        PolicyWorks x = loops(5, 5, 5);
        checks.due("nothing to better", x.solve(), 1);
        checks.due("the first one stays", x.policy(0), 0);
        // Round 1 leaves action 0 of state 0; once state 1 is bettered too, it is as great again, yet 1 is kept.
        x = new PolicyWorks();
        x.state();
        x.state();
        for (int s = 0; s < 2; s++) {
            for (int a = 0; a < 2; a++) {
                x.action(s);
            }
        }
        x.move(0, 0, 1, 1);
        x.move(0, 1, 0, 1);
        x.move(1, 0, 1, 1);
        x.move(1, 1, 1, 1);
        x.reward(0, 0, 3, 1);
        x.reward(0, 1, 2, 1);
        x.reward(1, 1, 1, 1);
        checks.due("rounds", x.solve(), 2);
        checks.due("its own one stays", x.policy(0), 1);
        checks.due("bettered", x.policy(1), 1);
        checks.fraction("as great", gain(x, 0, 0), 1, 4, 1);
        checks.fraction("as great as", gain(x, 0, 1), 1, 4, 1);
    }

    private static void leastOfTheGreatest() {
        PolicyWorks x = loops(1, 7, 3, 7);
        checks.due("solve", x.solve(), 2);
        checks.due("the least one of the greatest", x.policy(0), 1);
        checks.due("solve once more", x.solve(), 2);
        checks.fraction("value", value(x, 0), 1, 14, 1);
        checks.fraction("gain of a lesser one", gain(x, 0, 2), 1, 10, 1);
    }

    private static void twoStatesByHand() {
        PolicyWorks x = new PolicyWorks();
        x.state();
        x.state();
        x.action(0);
        x.action(1);
        x.move(0, 0, 0, 1);
        x.move(0, 0, 1, 2);
        x.move(1, 0, 0, 1);
        x.reward(0, 0, -7, 3);
        x.reward(1, 0, 1, 4);
        x.discount(2, 5);
        // v0 = -7/3 + 2/5 (v0 + 2 v1) / 3, v1 = 1/4 + 2/5 v0, so v0 (1 - 2/15 - 8/75) = -7/3 + 1/15 = -34/15
        checks.due("solve", x.solve(), 1);
        checks.fraction("v0", value(x, 0), -1, 170, 57);
        checks.fraction("v1", value(x, 1), -1, 215, 228);
        checks.fraction("gain is the value", gain(x, 0, 0), -1, 170, 57);
        checks.fraction("worth is the value", worth(x, 0, 1), -1, 215, 228);
        checks.due("behind the last digits", x.value(0, 2), 0);
        checks.due("behind the last digits, below", x.value(0, 3), 0);
        checks.due("far behind", x.value(0, Integer.MAX_VALUE), 0);
        checks.due("far behind, even", x.value(0, Integer.MAX_VALUE - 1), 0);
        checks.due("best", x.best(), true);
    }

    private static void wrongArguments() {
        PolicyWorks x = loops(1, 2);
        x.solve();
        for (int wrong : new int[] {-1, 1, 6, Integer.MAX_VALUE, Integer.MIN_VALUE}) {
            checks.due("policy of no state", x.policy(wrong), PolicyWorks.BAD);
            checks.due("value of no state", x.value(wrong, 0), PolicyWorks.BAD);
            checks.due("sign of no state", x.value(wrong, -1), PolicyWorks.NONE);
            checks.due("gain of no state", x.gain(wrong, 0, 1), PolicyWorks.BAD);
            checks.due("sign of the gain of no state", x.gain(wrong, 0, -1), PolicyWorks.NONE);
            checks.due("worth of no state", x.worth(0, wrong, 1), PolicyWorks.BAD);
        }
        for (int wrong : new int[] {-1, 2, 4, Integer.MAX_VALUE, Integer.MIN_VALUE}) {
            checks.due("gain of no action", x.gain(0, wrong, 0), PolicyWorks.BAD);
            checks.due("sign of the gain of no action", x.gain(0, wrong, -1), PolicyWorks.NONE);
        }
        for (int wrong : new int[] {-1, 4, Integer.MAX_VALUE, Integer.MIN_VALUE}) {
            checks.due("worth of no policy", x.worth(wrong, 0, 0), PolicyWorks.BAD);
            checks.due("sign of the worth of no policy", x.worth(wrong, 0, -1), PolicyWorks.NONE);
        }
        for (int wrong : new int[] {-2, -3, Integer.MIN_VALUE}) {
            checks.due("no part of a value", x.value(0, wrong), PolicyWorks.BAD);
            checks.due("no part of a gain", x.gain(0, 0, wrong), PolicyWorks.BAD);
            checks.due("no part of a worth", x.worth(0, 0, wrong), PolicyWorks.BAD);
        }
        checks.fraction("all stands", value(x, 0), 1, 4, 1);
    }

    private static void worthTakesTheLastAction() {
        PolicyWorks x = loops(1, 2);
        x.state();
        for (int a = 0; a < 4; a++) {
            x.action(1);
            x.move(1, a, 0, 1);
            x.reward(1, a, -a, 3);
        }
        // Worth needs no solving.
        checks.fraction("k 0, state 0", worth(x, 0, 0), 1, 2, 1);
        checks.fraction("k 0, state 1", worth(x, 0, 1), 1, 1, 1);
        checks.fraction("k 1, state 1", worth(x, 1, 1), 1, 5, 3);
        checks.fraction("k 2, state 0", worth(x, 2, 0), 1, 4, 1);
        checks.fraction("k 3, state 1", worth(x, 3, 1), 1, 1, 1);
        x.reward(0, 1, 0, 1);
        checks.fraction("k 3 behind a change", worth(x, 3, 1), -1, 1, 1);
        checks.fraction("0 is 0 / 1", worth(x, 3, 0), 0, 0, 1);
        checks.due("still not solved", x.count(2), 0);
    }

    private static void bestIsFalseUnlessSolved() {
        PolicyWorks x = loops(3, -4, 9);
        checks.due("not solved", x.best(), false);
        x.solve();
        checks.due("solved", x.best(), true);
        checks.due("solved, once more", x.best(), true);
        checks.fraction("best() changes nothing", value(x, 0), 1, 18, 1);
        x.discount(3, 4);
        checks.due("changed", x.best(), false);
        x.solve();
        checks.due("solved again", x.best(), true);
    }
}
