import java.math.BigInteger;
import java.util.Random;

/** Promises 7 to 16 on many models, against a plain reckoning with fractions of the Java library's whole numbers. */
final class OracleTest {
    private static final Checks checks = new Checks();
    private static final int PARTS = 18;

    private record Ratio(BigInteger above, BigInteger below) {
        static Ratio of(long above, long below) {
            return reduced(BigInteger.valueOf(above), BigInteger.valueOf(below));
        }

        static Ratio reduced(BigInteger above, BigInteger below) {
            BigInteger g = above.gcd(below);
            if (below.signum() < 0) {
                g = g.negate();
            }
            return new Ratio(above.divide(g), below.divide(g));
        }

        Ratio plus(Ratio o) {
            return reduced(above.multiply(o.below).add(o.above.multiply(below)), below.multiply(o.below));
        }

        Ratio minus(Ratio o) {
            return plus(new Ratio(o.above.negate(), o.below));
        }

        Ratio times(Ratio o) {
            return reduced(above.multiply(o.above), below.multiply(o.below));
        }

        Ratio by(Ratio o) {
            return reduced(above.multiply(o.below), below.multiply(o.above));
        }

        int compare(Ratio o) {
            return minus(o).above.signum();
        }

        Ratio distance() {
            return new Ratio(above.abs(), below);
        }

        long part(int part) {
            if (part == -1) {
                return above.signum();
            }
            BigInteger side = part % 2 == 0 ? above.abs() : below;
            return side.divide(BigInteger.TEN.pow(18 * (part / 2))).mod(BigInteger.TEN.pow(18)).longValueExact();
        }
    }

    private static final Ratio ZERO = Ratio.of(0, 1);

    /** A model set twice: in a PolicyWorks, and here. */
    private static final class Both {
        final PolicyWorks x = new PolicyWorks();
        final int n;
        final int[] counts;
        final Ratio[][] rewards;
        final int[][][] weights;
        Ratio discount = Ratio.of(1, 2);

        Both(int n, int[] counts) {
            this.n = n;
            this.counts = counts;
            rewards = new Ratio[n][4];
            weights = new int[n][4][n];
            for (int s = 0; s < n; s++) {
                x.state();
            }
            for (int s = 0; s < n; s++) {
                for (int a = 0; a < counts[s]; a++) {
                    x.action(s);
                    rewards[s][a] = ZERO;
                }
            }
        }

        void reward(int s, int a, int above, int below) {
            checks.due("reward", x.reward(s, a, above, below), true);
            rewards[s][a] = Ratio.of(above, below);
        }

        void move(int s, int a, int t, int weight) {
            checks.due("move", x.move(s, a, t, weight), true);
            weights[s][a][t] = weight;
        }

        void discount(int above, int below) {
            checks.due("discount", x.discount(above, below), true);
            discount = Ratio.of(above, below);
        }

        int total(int s, int a) {
            int total = 0;
            for (int w : weights[s][a]) {
                total += w;
            }
            return total;
        }

        Ratio gain(int s, int a, Ratio[] values) {
            Ratio sum = ZERO;
            for (int t = 0; t < n; t++) {
                sum = sum.plus(Ratio.of(weights[s][a][t], total(s, a)).times(values[t]));
            }
            return rewards[s][a].plus(discount.times(sum));
        }

        /** By plain elimination. */
        Ratio[] values(int[] policy) {
            Ratio[][] m = new Ratio[n][n + 1];
            for (int s = 0; s < n; s++) {
                int a = policy[s];
                for (int t = 0; t < n; t++) {
                    m[s][t] = Ratio.of(s == t ? 1 : 0, 1)
                        .minus(discount.times(Ratio.of(weights[s][a][t], total(s, a))));
                }
                m[s][n] = rewards[s][a];
            }
            for (int c = 0; c < n; c++) {
                for (int r = 0; r < n; r++) {
                    if (r != c) {
                        Ratio f = m[r][c].by(m[c][c]);
                        for (int k = 0; k <= n; k++) {
                            m[r][k] = m[r][k].minus(f.times(m[c][k]));
                        }
                    }
                }
            }
            Ratio[] values = new Ratio[n];
            for (int s = 0; s < n; s++) {
                values[s] = m[s][n].by(m[s][s]);
            }
            return values;
        }

        int greatest(int s, Ratio[] values, int own) {
            int least = 0;
            for (int a = 1; a < counts[s]; a++) {
                if (gain(s, a, values).compare(gain(s, least, values)) > 0) {
                    least = a;
                }
            }
            boolean ownIsAsGreat = own >= 0 && gain(s, own, values).compare(gain(s, least, values)) == 0;
            return ownIsAsGreat ? own : least;
        }

        void checkAll(int parts) {
            checkSolved(parts);
            checkWorths(parts);
            checkSteps(parts);
            checks.due("best", x.best(), true);
        }

        private void checkSolved(int parts) {
            int[] policy = new int[n];
            Ratio[] values;
            int rounds = 0;
            boolean changed;
            do {
                rounds++;
                changed = false;
                values = values(policy);
                int[] next = new int[n];
                for (int s = 0; s < n; s++) {
                    next[s] = greatest(s, values, policy[s]);
                    changed |= next[s] != policy[s];
                }
                policy = next;
            } while (changed);
            checks.due("solve", x.solve(), rounds);
            checks.due("count 2", x.count(2), rounds);
            for (int s = 0; s < n; s++) {
                checks.due("policy", x.policy(s), policy[s]);
                for (int part = -1; part < parts; part++) {
                    checks.due("value", x.value(s, part), values[s].part(part));
                }
                for (int a = 0; a < counts[s]; a++) {
                    Ratio gain = gain(s, a, values);
                    for (int part = -1; part < parts; part++) {
                        checks.due("gain", x.gain(s, a, part), gain.part(part));
                    }
                }
            }
        }

        private void checkWorths(int parts) {
            for (int k = 0; k < 4; k++) {
                int[] policy = new int[n];
                for (int s = 0; s < n; s++) {
                    policy[s] = Math.min(k, counts[s] - 1);
                }
                Ratio[] values = values(policy);
                for (int s = 0; s < n; s++) {
                    for (int part = -1; part < parts; part++) {
                        checks.due("worth", x.worth(k, s, part), values[s].part(part));
                    }
                }
            }
        }

        private void checkSteps(int parts) {
            Ratio[] values = new Ratio[n];
            java.util.Arrays.fill(values, ZERO);
            Ratio bound = ZERO;
            for (int s = 0; s < n; s++) {
                Ratio distance = gain(s, greatest(s, values, -1), values).distance();
                bound = distance.compare(bound) > 0 ? distance : bound;
            }
            bound = bound.by(Ratio.of(1, 1).minus(discount));
            for (int step = 0; step <= 8; step++) {
                for (int part = -1; part < parts; part++) {
                    checks.due("bound", x.bound(step, part), bound.part(part));
                    for (int s = 0; s < n; s++) {
                        checks.due("steps", x.steps(step, s, part), values[s].part(part));
                    }
                }
                bound = bound.times(discount);
                Ratio[] next = new Ratio[n];
                for (int s = 0; s < n; s++) {
                    int pick = greatest(s, values, -1);
                    if (step < 8) {
                        checks.due("plan", x.plan(step + 1, s), pick);
                    }
                    next[s] = gain(s, pick, values);
                }
                values = next;
            }
        }
    }

    public static void main(String[] args) {
        Random random = new Random(20261115);
        for (int i = 0; i < 250; i++) {
            Both both = any(random, 1 + random.nextInt(6), i % 3);
            both.checkAll(6);
            change(both, random);
            both.checkAll(6);
        }
        for (int i = 0; i < 150; i++) {
            roundNumbers(random).checkAll(6);
        }
        for (int sign = -1; sign <= 1; sign += 2) {
            longest(sign, 19, 20).checkAll(PARTS);
            longest(sign, 18, 19).checkAll(PARTS);
            heaviest(sign).checkAll(PARTS);
        }
        checks.end();
    }

    /** Size 0: few different numbers, so that gains are often as great; 1: middling; 2: all that is allowed. */
    private static Both any(Random random, int n, int size) {
        int[] counts = new int[n];
        for (int s = 0; s < n; s++) {
            counts[s] = 1 + random.nextInt(4);
        }
        Both both = new Both(n, counts);
        int mostWeight = size == 0 ? 1 : size == 1 ? 5 : 20;
        int mostReward = size == 0 ? 1 : size == 1 ? 9 : 1000;
        int mostBelow = size == 0 ? 1 : size == 1 ? 6 : 20;
        for (int s = 0; s < n; s++) {
            for (int a = 0; a < counts[s]; a++) {
                both.reward(s, a, random.nextInt(2 * mostReward + 1) - mostReward, 1 + random.nextInt(mostBelow));
                both.move(s, a, random.nextInt(n), 1 + random.nextInt(mostWeight));
                for (int t = 0; t < n; t++) {
                    if (random.nextBoolean()) {
                        both.move(s, a, t, random.nextInt(mostWeight + 1));
                    }
                }
                if (both.total(s, a) == 0) {
                    both.move(s, a, random.nextInt(n), 1);
                }
            }
        }
        int below = 1 + random.nextInt(20);
        both.discount(random.nextInt(below), below);
        return both;
    }

    /** Some of what was set is set anew, so that nothing kept from before may be told. */
    private static void change(Both both, Random random) {
        int s = random.nextInt(both.n);
        int a = random.nextInt(both.counts[s]);
        switch (random.nextInt(3)) {
            case 0 -> both.reward(s, a, random.nextInt(2001) - 1000, 1 + random.nextInt(20));
            case 1 -> both.move(s, a, random.nextInt(both.n), 1 + random.nextInt(20));
            default -> both.discount(random.nextInt(19), 19);
        }
    }

    /** Numbers that end in many zeros, above 0 and below it. */
    private static Both roundNumbers(Random random) {
        int n = 1 + random.nextInt(6);
        int[] counts = new int[n];
        java.util.Arrays.fill(counts, 1 + random.nextInt(2));
        Both both = new Both(n, counts);
        int[] weights = {0, 5, 10, 20};
        int[] rewards = {-1000, -500, -100, -1, 0, 1, 1000};
        for (int s = 0; s < n; s++) {
            for (int a = 0; a < counts[s]; a++) {
                both.reward(s, a, rewards[random.nextInt(rewards.length)], random.nextBoolean() ? 1 : 20);
                for (int t = 0; t < n; t++) {
                    both.move(s, a, t, t == s ? 20 : weights[random.nextInt(weights.length)]);
                }
            }
        }
        both.discount(10 * random.nextInt(2), 20);
        return both;
    }

    /** Sums of weights without common divisors, so that steps have the longest lower parts. */
    private static Both longest(int sign, int above, int below) {
        int[] totals = {113, 109, 107, 103, 101, 119};
        int[] belows = {19, 17, 16, 15, 13, 11};
        Both both = new Both(6, new int[] {4, 4, 4, 4, 4, 4});
        for (int s = 0; s < 6; s++) {
            for (int a = 0; a < 4; a++) {
                both.reward(s, a, sign * (1000 - a), belows[s]);
                int rest = totals[s] - a;
                for (int t = 0; t < 6; t++) {
                    int weight = Math.min(20, rest - (5 - t) > 20 ? 20 : Math.max(rest - (5 - t), 0));
                    both.move(s, a, t, weight);
                    rest -= weight;
                }
            }
        }
        both.discount(above, below);
        return both;
    }

    /** Every number as great as it may be. */
    private static Both heaviest(int sign) {
        Both both = new Both(6, new int[] {4, 4, 4, 4, 4, 4});
        for (int s = 0; s < 6; s++) {
            for (int a = 0; a < 4; a++) {
                both.reward(s, a, sign * (1000 - s * 4 - a), 20 - a);
                for (int t = 0; t < 6; t++) {
                    both.move(s, a, t, 20);
                }
            }
        }
        both.discount(19, 20);
        return both;
    }
}
