/** Promises 12 to 14: values behind steps, plans, and the bound. */
final class StepsTest {
    private static final Checks checks = new Checks();

    public static void main(String[] args) {
        notReady();
        valuesByHand();
        plansByHand();
        boundsByHand();
        wrongArguments();
        checks.end();
    }

    /** Staying earns 1 now; going earns nothing now and 10 once in state 1, which leads back. */
    private static PolicyWorks stayOrGo() {
        PolicyWorks x = new PolicyWorks();
        x.state();
        x.state();
        x.action(0);
        x.action(0);
        x.action(1);
        x.move(0, 0, 1, 3);
        x.move(0, 1, 0, 5);
        x.move(1, 0, 0, 2);
        x.reward(0, 1, 1, 1);
        x.reward(1, 0, 10, 1);
        return x;
    }

    private static long[] steps(PolicyWorks x, int n, int state) {
        return new long[] {x.steps(n, state, -1), x.steps(n, state, 0), x.steps(n, state, 1)};
    }

    private static long[] bound(PolicyWorks x, int n) {
        return new long[] {x.bound(n, -1), x.bound(n, 0), x.bound(n, 1)};
    }

    private static void notReady() {
        PolicyWorks x = stayOrGo();
        x.steps(8, 0, 0);
        x.action(0);
        checks.due("steps", x.steps(1, 0, 0), PolicyWorks.BAD);
        checks.due("sign of steps", x.steps(1, 0, -1), PolicyWorks.NONE);
        checks.due("plan", x.plan(1, 0), PolicyWorks.BAD);
        checks.due("bound", x.bound(1, 1), PolicyWorks.BAD);
        checks.due("sign of bound", x.bound(1, -1), PolicyWorks.NONE);
    }

    private static void valuesByHand() {
        PolicyWorks x = stayOrGo();
        checks.fraction("behind 2 steps, asked first", steps(x, 2, 0), 1, 5, 1);
        checks.fraction("behind 0 steps", steps(x, 0, 1), 0, 0, 1);
        checks.fraction("behind 1 step", steps(x, 1, 0), 1, 1, 1);
        checks.fraction("behind 1 step, state 1", steps(x, 1, 1), 1, 10, 1);
        checks.fraction("behind 2 steps, state 1", steps(x, 2, 1), 1, 21, 2);
        checks.fraction("behind 3 steps", steps(x, 3, 0), 1, 21, 4);
        checks.fraction("behind 8 steps", steps(x, 8, 0), 1, 425, 64);
        x.discount(0, 7);
        checks.fraction("without what comes later", steps(x, 8, 0), 1, 1, 1);
        x.reward(1, 0, -5, 15);
        checks.fraction("behind a change", steps(x, 1, 1), -1, 1, 3);
    }

    private static void plansByHand() {
        PolicyWorks x = stayOrGo();
        checks.due("plan of 2", x.plan(2, 0), 0);
        checks.due("plan of 1", x.plan(1, 0), 1);
        checks.due("plan of 8", x.plan(8, 0), 0);
        checks.due("one action alone", x.plan(8, 1), 0);
        x.reward(0, 0, 1, 1);
        checks.due("the least one of as great ones", x.plan(1, 0), 0);
        x.reward(0, 0, -4, 1);
        // Going: - 4 + 5; staying: 1 + 1 / 2.
        checks.due("staying", x.plan(2, 0), 1);
        x.reward(0, 0, -7, 2);
        // Going: - 7 / 2 + 5; staying: 1 + 1 / 2.
        checks.due("as great: the least one", x.plan(2, 0), 0);
    }

    private static void boundsByHand() {
        PolicyWorks x = stayOrGo();
        checks.fraction("0 steps", bound(x, 0), 1, 20, 1);
        checks.fraction("1 step", bound(x, 1), 1, 10, 1);
        checks.fraction("8 steps", bound(x, 8), 1, 5, 64);
        x.reward(1, 0, -40, 3);
        x.discount(2, 3);
        checks.fraction("without sign", bound(x, 1), 1, 80, 3);
        checks.fraction("without sign, 0 steps", bound(x, 0), 1, 40, 1);
        // A state's value is what its best action earns, so a greater loss that is not taken counts nothing.
        x.reward(0, 0, -1000, 1);
        checks.fraction("not taken", bound(x, 0), 1, 40, 1);
        x.discount(0, 1);
        checks.fraction("discount 0, 0 steps", bound(x, 0), 1, 40, 3);
        checks.fraction("discount 0, 1 step", bound(x, 1), 0, 0, 1);
        x.reward(1, 0, 0, 1);
        x.reward(0, 1, 0, 1);
        x.discount(1, 2);
        checks.fraction("no rewards", bound(x, 0), 0, 0, 1);
    }

    private static void wrongArguments() {
        PolicyWorks x = stayOrGo();
        for (int wrong : new int[] {-1, 9, Integer.MAX_VALUE, Integer.MIN_VALUE}) {
            checks.due("no such steps", x.steps(wrong, 0, 0), PolicyWorks.BAD);
            checks.due("sign of no such steps", x.steps(wrong, 0, -1), PolicyWorks.NONE);
            checks.due("no such plan", x.plan(wrong, 0), PolicyWorks.BAD);
            checks.due("no such bound", x.bound(wrong, 0), PolicyWorks.BAD);
            checks.due("sign of no such bound", x.bound(wrong, -1), PolicyWorks.NONE);
        }
        checks.due("plan of 0 steps", x.plan(0, 0), PolicyWorks.BAD);
        for (int wrong : new int[] {-1, 2, Integer.MAX_VALUE, Integer.MIN_VALUE}) {
            checks.due("steps of no state", x.steps(1, wrong, 0), PolicyWorks.BAD);
            checks.due("sign of steps of no state", x.steps(1, wrong, -1), PolicyWorks.NONE);
            checks.due("plan of no state", x.plan(1, wrong), PolicyWorks.BAD);
        }
        for (int wrong : new int[] {-2, Integer.MIN_VALUE}) {
            checks.due("no part of steps", x.steps(1, 0, wrong), PolicyWorks.BAD);
            checks.due("no part of bound", x.bound(1, wrong), PolicyWorks.BAD);
        }
        checks.due("far part of steps", x.steps(8, 0, Integer.MAX_VALUE), 0);
        checks.due("far part of bound", x.bound(8, Integer.MAX_VALUE), 0);
    }
}
