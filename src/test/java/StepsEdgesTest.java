/** Promises 11 to 14: a test for each sentence that names an edge. */
final class StepsEdgesTest {
    private static final Checks checks = new Checks();
    private static final int[] FAR = {Integer.MIN_VALUE, -2, -1, Integer.MAX_VALUE - 1, Integer.MAX_VALUE};

    public static void main(String[] args) {
        worthOfTheLastActionIfFewer();
        worthNeedsNoSolving();
        worthIsRefusedIfNotAllIsReady();
        worthIsRefusedIfNoneSuch();
        stepsBeginWithNothing();
        stepsFrom0To8();
        stepsAreRefusedIfNotAllIsReady();
        stepsAreRefusedIfNoneSuch();
        plansFrom1To8();
        planOfTheLeastOne();
        planUnderOneStepLess();
        planIsBadIfNotAllIsReady();
        planIsBadIfNoneSuch();
        boundsFrom0To8();
        boundIsWithoutSign();
        boundIsOfTheGreatestDistance();
        boundOfNothing();
        boundIsRefusedIfNotAllIsReady();
        boundIsRefusedIfNoneSuch();
        checks.end();
    }

    /** State 1 earns 128 again and again. State 0 goes there for nothing, or earns 127 and comes to nothing in 2. */
    private static PolicyWorks goOrTake() {
        PolicyWorks x = Models.bare(3, 1);
        x.action(0);
        x.move(0, 0, 1, 1);
        x.move(0, 1, 2, 1);
        x.move(1, 0, 1, 1);
        x.move(2, 0, 2, 1);
        x.reward(0, 1, 127, 1);
        x.reward(1, 0, 128, 1);
        return x;
    }

    private static PolicyWorks unready() {
        PolicyWorks x = goOrTake();
        x.worth(0, 0, 0);
        x.steps(8, 0, 0);
        x.bound(8, 0);
        x.move(2, 0, 2, 0);
        return x;
    }

    private static void worthOfTheLastActionIfFewer() {
        checks.sentence("11: takes action k of each state (the last one, if it has fewer)");
        PolicyWorks x = Models.bare(4, 0);
        for (int s = 0; s < 4; s++) {
            for (int a = 0; a <= s; a++) {
                x.action(s);
                x.move(s, a, s, 1);
                x.reward(s, a, 10 * s + a + 1, 1);
            }
        }
        for (int k = 0; k < 4; k++) {
            for (int s = 0; s < 4; s++) {
                int policy = k;
                int state = s;
                long twice = 2 * (10 * s + Math.min(k, s) + 1);
                checks.told("worth " + k + " of " + s, part -> x.worth(policy, state, part), 1, twice, 1);
            }
        }
    }

    private static void worthNeedsNoSolving() {
        checks.sentence("11: BAD: not all is ready (and nothing of being solved)");
        PolicyWorks x = Models.loops(1, -2);
        checks.told("not solved", part -> x.worth(1, 0, part), -1, 4, 1);
        checks.due("and not solved by that", x.count(2), 0);
        x.solve();
        checks.told("solved", part -> x.worth(1, 0, part), -1, 4, 1);
        checks.due("the policy is as it was", x.policy(0), 0);
    }

    private static void worthIsRefusedIfNotAllIsReady() {
        checks.sentence("11: BAD (part - 1: NONE): not all is ready");
        PolicyWorks x = unready();
        for (int k = 0; k < 4; k++) {
            int policy = k;
            checks.refused("worth " + k, part -> x.worth(policy, 0, part));
        }
        x.move(2, 0, 2, 1);
        checks.told("ready again", part -> x.worth(0, 0, part), 1, 128, 1);
    }

    private static void worthIsRefusedIfNoneSuch() {
        checks.sentence("11: BAD (part - 1: NONE): none such (k 0 .. 3)");
        PolicyWorks x = goOrTake();
        checks.told("k 0", part -> x.worth(0, 0, part), 1, 128, 1);
        checks.told("k 3", part -> x.worth(3, 0, part), 1, 127, 1);
        checks.told("the last state", part -> x.worth(3, 2, part), 0, 0, 1);
        checks.refused("k 4", part -> x.worth(4, 0, part));
        checks.refused("state 3, of three", part -> x.worth(0, 3, part));
        checks.refused("state 6", part -> x.worth(0, 6, part));
        PolicyWorks full = Models.full();
        checks.due("5, of six", full.worth(3, 5, 1) > 0, true);
        checks.refused("6, of six", part -> full.worth(3, 6, part));
        for (int far : FAR) {
            checks.refused("k " + far, part -> x.worth(far, 0, part));
            checks.refused("state " + far, part -> x.worth(0, far, part));
        }
    }

    private static void stepsBeginWithNothing() {
        checks.sentence("Terms: values are 0 before step 1");
        for (int reward : new int[] {5, -5}) {
            PolicyWorks x = Models.loops(reward);
            checks.told("0 steps", part -> x.steps(0, 0, part), 0, 0, 1);
            checks.told("1 step", part -> x.steps(1, 0, part), reward / 5, 5, 1);
            checks.told("0 steps, asked again", part -> x.steps(0, 0, part), 0, 0, 1);
        }
    }

    private static void stepsFrom0To8() {
        checks.sentence("12: behind so many steps (0 .. 8)");
        PolicyWorks x = goOrTake();
        for (int n = 8; n >= 0; n--) {
            int steps = n;
            // 256 less 256 / 2 by n times
            long earned = 256 - (256 >> n);
            checks.told(n + " steps", part -> x.steps(steps, 1, part), n > 0 ? 1 : 0, earned, 1);
        }
        checks.refused("9 steps", part -> x.steps(9, 1, part));
        for (int far : FAR) {
            checks.refused(far + " steps", part -> x.steps(far, 1, part));
        }
        checks.told("not solved by that", part -> x.steps(8, 0, part), 1, 127, 1);
        checks.due("rounds", x.count(2), 0);
    }

    private static void stepsAreRefusedIfNotAllIsReady() {
        checks.sentence("12: BAD (part - 1: NONE): not all is ready");
        PolicyWorks x = unready();
        for (int n = 0; n <= 8; n++) {
            int steps = n;
            checks.refused(n + " steps", part -> x.steps(steps, 0, part));
        }
        x.move(2, 0, 2, 1);
        checks.told("ready again", part -> x.steps(1, 0, part), 1, 127, 1);
    }

    private static void stepsAreRefusedIfNoneSuch() {
        checks.sentence("12: BAD (part - 1: NONE): none such");
        PolicyWorks x = goOrTake();
        checks.told("the first state", part -> x.steps(1, 0, part), 1, 127, 1);
        checks.told("the last state", part -> x.steps(1, 2, part), 0, 0, 1);
        checks.refused("state 3, of three", part -> x.steps(1, 3, part));
        checks.refused("state 3, 0 steps", part -> x.steps(0, 3, part));
        checks.refused("state 6", part -> x.steps(1, 6, part));
        PolicyWorks full = Models.full();
        checks.due("5, of six", full.steps(8, 5, 1) > 0, true);
        checks.refused("6, of six", part -> full.steps(8, 6, part));
        for (int far : FAR) {
            checks.refused("state " + far, part -> x.steps(1, far, part));
        }
    }

    private static void plansFrom1To8() {
        checks.sentence("13: a plan of so many steps (1 .. 8)");
        PolicyWorks x = goOrTake();
        checks.due("0", x.plan(0, 0), PolicyWorks.BAD);
        checks.due("1", x.plan(1, 0), 1);
        checks.due("8", x.plan(8, 0), 0);
        checks.due("9", x.plan(9, 0), PolicyWorks.BAD);
        for (int far : FAR) {
            checks.due("plan of " + far, x.plan(far, 0), PolicyWorks.BAD);
        }
    }

    private static void planOfTheLeastOne() {
        checks.sentence("13: the least one with the greatest gain");
        int[][] rewards = {{4, 4, 4, 4}, {1, 7, 3, 7}, {1, 3, 7, 7}, {7, 1, 3, 7}, {1, 2, 3, 4}, {-4, -3, -2, -2}};
        int[] due = {0, 1, 2, 0, 3, 2};
        for (int i = 0; i < due.length; i++) {
            PolicyWorks x = Models.loops(rewards[i]);
            checks.due("row " + i + ", 1 step", x.plan(1, 0), due[i]);
            checks.due("row " + i + ", 8 steps", x.plan(8, 0), due[i]);
        }
        // The best policy has come to a later one that is as great, and keeps it; a plan never does.
        PolicyWorks x = Models.crossing(1);
        x.solve();
        checks.due("the policy's", x.policy(0), 1);
        for (int n = 1; n <= 8; n++) {
            checks.due("the plan's, " + n + " steps", x.plan(n, 0), 0);
        }
    }

    private static void planUnderOneStepLess() {
        checks.sentence("13: under the values of one step less");
        PolicyWorks x = goOrTake();
        // Going earns 128 less 128 / 2 by n - 1 times: 126 by 7 steps, 127 by 8.
        for (int n = 1; n <= 7; n++) {
            checks.due("taking is more: " + n, x.plan(n, 0), 1);
        }
        checks.due("as great: the least one", x.plan(8, 0), 0);
        x.reward(0, 1, 255, 2);
        checks.due("127 and a half are more", x.plan(8, 0), 1);
        x.reward(0, 1, 126, 1);
        checks.due("126 by 6 steps", x.plan(6, 0), 1);
        checks.due("126 by 7 steps", x.plan(7, 0), 0);
        x.reward(0, 1, 0, 1);
        checks.due("nothing and nothing", x.plan(1, 0), 0);
    }

    private static void planIsBadIfNotAllIsReady() {
        checks.sentence("13: BAD: not all is ready");
        PolicyWorks x = unready();
        for (int n = 1; n <= 8; n++) {
            checks.due("plan of " + n, x.plan(n, 0), PolicyWorks.BAD);
        }
        x.move(2, 0, 2, 1);
        checks.due("ready again", x.plan(1, 0), 1);
    }

    private static void planIsBadIfNoneSuch() {
        checks.sentence("13: BAD: none such");
        PolicyWorks x = goOrTake();
        checks.due("the first state", x.plan(1, 0), 1);
        checks.due("the last state", x.plan(1, 2), 0);
        checks.due("state 3, of three", x.plan(1, 3), PolicyWorks.BAD);
        checks.due("state 6", x.plan(1, 6), PolicyWorks.BAD);
        PolicyWorks full = Models.full();
        checks.due("5, of six", full.plan(8, 5) >= 0, true);
        checks.due("6, of six", full.plan(8, 6), PolicyWorks.BAD);
        for (int far : FAR) {
            checks.due("state " + far, x.plan(1, far), PolicyWorks.BAD);
        }
    }

    private static void boundsFrom0To8() {
        checks.sentence("14: values behind n steps (0 .. 8)");
        PolicyWorks x = goOrTake();
        for (int n = 8; n >= 0; n--) {
            int steps = n;
            checks.told("bound of " + n, part -> x.bound(steps, part), 1, 256 >> n, 1);
        }
        checks.refused("bound of 9", part -> x.bound(9, part));
        for (int far : FAR) {
            checks.refused("bound of " + far, part -> x.bound(far, part));
        }
    }

    private static void boundIsWithoutSign() {
        checks.sentence("14: distance (without sign)");
        PolicyWorks x = goOrTake();
        x.reward(0, 1, -5, 1);
        x.reward(1, 0, -128, 1);
        checks.told("below 0", part -> x.bound(1, part), 1, 128, 1);
        x.reward(2, 0, 129, 1);
        checks.told("129 is farther than - 128", part -> x.bound(1, part), 1, 129, 1);
        x.reward(2, 0, 127, 1);
        checks.told("- 128 is farther than 127", part -> x.bound(1, part), 1, 128, 1);
        x.reward(2, 0, 128, 1);
        checks.told("- 128 is as far as 128", part -> x.bound(1, part), 1, 128, 1);
    }

    private static void boundIsOfTheGreatestDistance() {
        checks.sentence("14: the greatest distance of a state's value behind one step from 0");
        for (int farthest = 0; farthest < 6; farthest++) {
            PolicyWorks x = Models.full();
            for (int a = 0; a < 4; a++) {
                x.reward(farthest, a, -400 - a, 4);
            }
            checks.told("state " + farthest, part -> x.bound(0, part), 1, 200, 1);
        }
        // A loss that is not taken is no state's value.
        PolicyWorks x = Models.loops(-1000, -3, -4);
        checks.told("the best of losses", part -> x.bound(0, part), 1, 6, 1);
    }

    private static void boundOfNothing() {
        checks.sentence("14: g by n times, by 1 less g");
        PolicyWorks x = Models.loops(0);
        checks.told("no reward", part -> x.bound(0, part), 0, 0, 1);
        checks.told("no reward, 8 steps", part -> x.bound(8, part), 0, 0, 1);
        x.reward(0, 0, -7, 2);
        x.discount(0, 5);
        checks.told("discount 0, 0 steps", part -> x.bound(0, part), 1, 7, 2);
        checks.told("discount 0, 1 step", part -> x.bound(1, part), 0, 0, 1);
        checks.told("discount 0, 8 steps", part -> x.bound(8, part), 0, 0, 1);
        x.discount(19, 20);
        checks.told("the greatest discount", part -> x.bound(0, part), 1, 70, 1);
        // 70 * 19 by 8 times / 20 by 8 times
        checks.told("the greatest discount, 8 steps", part -> x.bound(8, part), 1, 7L * 16983563041L, 2560000000L);
    }

    private static void boundIsRefusedIfNotAllIsReady() {
        checks.sentence("14: BAD (part - 1: NONE): not all is ready");
        PolicyWorks x = unready();
        for (int n = 0; n <= 8; n++) {
            int steps = n;
            checks.refused("bound of " + n, part -> x.bound(steps, part));
        }
        x.move(2, 0, 2, 1);
        checks.told("ready again", part -> x.bound(0, part), 1, 256, 1);
    }

    private static void boundIsRefusedIfNoneSuch() {
        checks.sentence("14: BAD (part - 1: NONE): none such");
        PolicyWorks x = goOrTake();
        checks.refused("- 1", part -> x.bound(-1, part));
        checks.refused("9", part -> x.bound(9, part));
        checks.due("no part below the sign", x.bound(0, -2), PolicyWorks.BAD);
        checks.due("the least int as part", x.bound(0, Integer.MIN_VALUE), PolicyWorks.BAD);
    }
}
