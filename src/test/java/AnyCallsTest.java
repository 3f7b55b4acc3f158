import java.util.Random;

/** Whatever is called in whatever order: nothing is thrown, and best() and count(2) tell the same of being solved. */
final class AnyCallsTest {
    private static final Checks checks = new Checks();
    private static final int[] EDGES = {
        Integer.MIN_VALUE, -1001, -1000, -2, -1, 21, 1000, 1001, Integer.MAX_VALUE - 1, Integer.MAX_VALUE
    };

    public static void main(String[] args) {
        Random random = new Random(7);
        for (int run = 0; run < 300; run++) {
            // Ready ones are rare by chance alone.
            PolicyWorks x = run % 4 == 0 ? new PolicyWorks() : ready();
            for (int call = 0; call < 490; call++) {
                callAny(x, random);
            }
        }
        checks.end();
    }

    private static PolicyWorks ready() {
        PolicyWorks x = new PolicyWorks();
        for (int s = 0; s < 3; s++) {
            x.state();
        }
        for (int s = 0; s < 3; s++) {
            for (int a = 0; a < 2; a++) {
                x.action(s);
                x.move(s, a, (s + a) % 3, 1 + s + a);
            }
        }
        return x;
    }

    private static int any(Random random, int most) {
        return random.nextInt(25) == 0 ? EDGES[random.nextInt(EDGES.length)] : random.nextInt(most + 1);
    }

    private static void callAny(PolicyWorks x, Random random) {
        int s = any(random, 2);
        int a = any(random, 1);
        int n = any(random, 8);
        int part = any(random, 8) - 1;
        switch (random.nextInt(18)) {
            case 0 -> changes(x, x.count(0) < 3 && x.state() >= 0);
            case 1 -> changes(x, x.count(1) < 6 && x.action(s) >= 0);
            case 2, 3 -> changes(x, x.reward(s, a, any(random, 40) - 20, any(random, 20)));
            case 4, 5, 6 -> changes(x, x.move(s, a, any(random, 2), any(random, 20)));
            case 7 -> changes(x, x.discount(any(random, 19), any(random, 20)));
            case 8, 9 -> solves(x);
            case 10 -> x.policy(s);
            case 11 -> x.value(s, part);
            case 12 -> x.gain(s, a, part);
            case 13 -> x.worth(a, s, part);
            case 14 -> x.steps(n, s, part);
            case 15 -> x.plan(n, s);
            case 16 -> x.bound(n, part);
            default -> checks.due("best", x.best(), x.count(2) > 0);
        }
    }

    private static void solves(PolicyWorks x) {
        int rounds = x.solve();
        checks.due("count 2 behind solve", x.count(2), Math.max(rounds, 0));
    }

    private static void changes(PolicyWorks x, boolean changed) {
        if (changed) {
            checks.due("count 2 behind a change", x.count(2), 0);
        }
    }
}
