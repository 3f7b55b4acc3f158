import java.lang.reflect.Field;
import java.lang.reflect.InvocationTargetException;
import java.lang.reflect.Method;

/**
 * Promise 15: that best() looks at all it claims. No run of calls can make it false once all is solved, so what the
 * object keeps is spoiled from outside here, at each place and on each side of each edge.
 */
final class BestTest {
    private static final Checks checks = new Checks();
    private static final int STATES = 6;
    private static final int ACTIONS = 4;

    public static void main(String[] args) throws ReflectiveOperationException {
        valuesAreTheGreatestGains();
        valuesAreThePolicysGains();
        noPolicyIsWorthMore();
        stepsAreNotFartherThanTheBound();
        laterStepsAreNotLookedAt();
        checks.end();
    }

    /** Each state leads back to itself and earns 1, by its first action or by any: it is worth 2. */
    private static PolicyWorks solved(boolean othersEarnToo) {
        PolicyWorks x = Models.bare(STATES, ACTIONS);
        for (int s = 0; s < STATES; s++) {
            for (int a = 0; a < ACTIONS; a++) {
                x.move(s, a, s, 1);
                x.reward(s, a, a == 0 || othersEarnToo ? 1 : 0, 1);
            }
        }
        x.solve();
        checks.due("solved", x.best(), true);
        return x;
    }

    private static Object get(Object from, String name) throws ReflectiveOperationException {
        Field field = from.getClass().getDeclaredField(name);
        field.setAccessible(true);
        return field.get(from);
    }

    /** Makes a row's value this, by the lower part that the row has. */
    private static void spoil(Object row, int state, long above) throws ReflectiveOperationException {
        Object whole = ((Object[]) get(row, "above"))[state];
        Method put = whole.getClass().getDeclaredMethod("put", long.class);
        put.setAccessible(true);
        try {
            put.invoke(whole, above);
        } catch (InvocationTargetException e) {
            checks.due("put threw " + e.getCause(), true, false);
        }
    }

    private static long lowerPart(Object row) throws ReflectiveOperationException {
        long[] limbs = (long[]) get(get(row, "below"), "limbs");
        return limbs[0] + 1_000_000L * limbs[1];
    }

    private static void valuesAreTheGreatestGains() throws ReflectiveOperationException {
        checks.sentence("15: the best values are, in each state, the greatest gain of its actions");
        for (int s = 0; s < STATES; s++) {
            PolicyWorks x = solved(true);
            Object values = get(x, "bestValues");
            long below = lowerPart(values);
            spoil(values, s, 2 * below - 1);
            checks.due("too little in " + s, x.best(), false);
            spoil(values, s, 2 * below + 1);
            checks.due("too much in " + s, x.best(), false);
            spoil(values, s, 2 * below);
            checks.due("as before in " + s, x.best(), true);
            for (int a = 0; a < ACTIONS; a++) {
                onlyOneGainsMore(s, a);
            }
        }
    }

    // The policy's gain is the value, but another action's is more; all else that best() looks at is made to fit.
    private static void onlyOneGainsMore(int state, int action) throws ReflectiveOperationException {
        PolicyWorks x = Models.bare(STATES, ACTIONS);
        for (int s = 0; s < STATES; s++) {
            for (int a = 0; a < ACTIONS; a++) {
                x.move(s, a, s, 1);
                x.reward(s, a, s == state && a == action ? 3 : 1, 1);
            }
        }
        x.solve();
        checks.due("best", x.best(), true);
        Object values = get(x, "bestValues");
        spoil(values, state, 2 * lowerPart(values));
        ((int[]) get(x, "bestPolicy"))[state] = action == 0 ? 1 : 0;
        for (Object worth : (Object[]) get(x, "worths")) {
            spoil(worth, state, 0);
        }
        for (int n = 1; n <= 4; n++) {
            spoil(rowOf(x, n), state, 2 * lowerPart(rowOf(x, n)));
        }
        checks.due("action " + action + " of " + state + " gains more", x.best(), false);
    }

    private static void valuesAreThePolicysGains() throws ReflectiveOperationException {
        checks.sentence("15: and that of the policy's");
        for (int s = 0; s < STATES; s++) {
            PolicyWorks x = solved(false);
            int[] policy = (int[]) get(x, "bestPolicy");
            for (int a = 1; a < ACTIONS; a++) {
                policy[s] = a;
                checks.due("action " + a + " of " + s, x.best(), false);
            }
            policy[s] = 0;
            checks.due("as before", x.best(), true);
        }
    }

    private static void noPolicyIsWorthMore() throws ReflectiveOperationException {
        checks.sentence("15: no policy of worth() is worth more");
        PolicyWorks x = solved(true);
        for (int k = 0; k < ACTIONS; k++) {
            Object worth = ((Object[]) get(x, "worths"))[k];
            long below = lowerPart(worth);
            for (int s = 0; s < STATES; s++) {
                spoil(worth, s, 2 * below + 1);
                checks.due("more: " + k + " in " + s, x.best(), false);
                spoil(worth, s, 2 * below - 1);
                checks.due("less: " + k + " in " + s, x.best(), true);
                spoil(worth, s, 2 * below);
                checks.due("as much: " + k + " in " + s, x.best(), true);
            }
        }
    }

    // 2 / 2 by n times is the bound, and 2 is the value: so far above and below it, and no farther.
    private static void stepsAreNotFartherThanTheBound() throws ReflectiveOperationException {
        checks.sentence("15: values behind 0 .. 4 steps are not farther from them than bound() tells");
        PolicyWorks x = solved(true);
        for (int n = 0; n <= 4; n++) {
            Object row = rowOf(x, n);
            long below = lowerPart(row);
            checks.due("lower part", below, 1L << n);
            for (int s = 0; s < STATES; s++) {
                spoil(row, s, 2 * below - 3);
                checks.due("too far down: " + n + " in " + s, x.best(), false);
                if (n != 1) {
                    // One step's values make the bound itself: greater ones make it greater.
                    spoil(row, s, 2 * below + 3);
                    checks.due("too far up: " + n + " in " + s, x.best(), false);
                }
                spoil(row, s, 2 * below + 2);
                checks.due("just so far up: " + n + " in " + s, x.best(), true);
                spoil(row, s, 2 * below);
                checks.due("not far at all: " + n + " in " + s, x.best(), true);
                spoil(row, s, 2 * below - 2);
                checks.due("just so far down: " + n + " in " + s, x.best(), true);
            }
        }
    }

    private static void laterStepsAreNotLookedAt() throws ReflectiveOperationException {
        checks.sentence("15: behind 0 .. 4 steps");
        PolicyWorks x = solved(true);
        x.steps(8, 0, 0);
        for (int n = 5; n <= 8; n++) {
            spoil(rowOf(x, n), 0, -1);
            checks.due("step " + n, x.best(), true);
        }
    }

    private static Object rowOf(PolicyWorks x, int n) throws ReflectiveOperationException {
        return ((Object[]) get(get(x, "ladder"), "rows"))[n];
    }
}
