import java.util.Arrays;

/**
 * Decisions that are taken again and again, with rewards that count less the later they come.
 * Every number is exact: rows of values share one lower part, and only what is told is reduced.
 */
public final class PolicyWorks {
    public static final int BAD = -1, NONE = -2;

    private static final int MOST_STATES = 6;
    private static final int MOST_ACTIONS = 4;
    private static final int MOST_WEIGHT = 20;
    private static final int MOST_REWARD = 1000;
    private static final int MOST_BELOW = 20;
    private static final int MOST_STEPS = 8;
    private static final int CHECKED_STEPS = 4;
    private static final int SIGN_PART = -1;

    // No policy comes twice, so there are never more rounds than policies: 4 by 6 times.
    private static final int MOST_ROUNDS = 4096;

    // Minors of the equations stay below 10 by 33 times, and what is told below 10 by 126 times:
    // a limb holds six digits, and some limbs are to spare.
    private static final int VALUE_LIMBS = 8;
    private static final int LIMBS = 24;

    private final Model model;
    private final Equations equations;
    private final Chooser chooser;
    private final Ladder ladder;
    private final Row bestValues;
    private final int[] bestPolicy;
    private final Row[] worths;
    private final boolean[] worthKnown;
    private final int[] trial;
    private final Fraction told;
    private final Whole left;
    private final Whole right;
    private final Whole factor;
    private int rounds;

    public PolicyWorks() {
        model = new Model();
        equations = new Equations();
        chooser = new Chooser();
        ladder = new Ladder();
        bestValues = new Row(VALUE_LIMBS);
        bestPolicy = new int[MOST_STATES];
        worths = new Row[MOST_ACTIONS];
        for (int k = 0; k < MOST_ACTIONS; k++) {
            worths[k] = new Row(VALUE_LIMBS);
        }
        worthKnown = new boolean[MOST_ACTIONS];
        trial = new int[MOST_STATES];
        told = new Fraction();
        left = new Whole(LIMBS);
        right = new Whole(LIMBS);
        factor = new Whole(LIMBS);
        rounds = 0;
    }

    public int state() {
        if (model.states >= MOST_STATES) {
            return BAD;
        }
        forget();
        model.states++;
        return model.states - 1;
    }

    public int action(int state) {
        if (!model.hasState(state) || model.actionCounts[state] >= MOST_ACTIONS) {
            return BAD;
        }
        forget();
        model.actionCounts[state]++;
        return model.actionCounts[state] - 1;
    }

    public boolean reward(int state, int action, int above, int below) {
        boolean inRange = above >= -MOST_REWARD && above <= MOST_REWARD && below >= 1 && below <= MOST_BELOW;
        if (!inRange || !model.hasAction(state, action)) {
            return false;
        }
        forget();
        Action changed = model.find(state, action);
        changed.above = above;
        changed.below = below;
        return true;
    }

    public boolean move(int state, int action, int to, int weight) {
        boolean inRange = weight >= 0 && weight <= MOST_WEIGHT && model.hasState(to);
        if (!inRange || !model.hasAction(state, action)) {
            return false;
        }
        forget();
        Action changed = model.find(state, action);
        changed.total += weight - changed.weights[to];
        changed.weights[to] = weight;
        return true;
    }

    public boolean discount(int above, int below) {
        if (above < 0 || above >= below || below > MOST_BELOW) {
            return false;
        }
        forget();
        model.discountAbove = above;
        model.discountBelow = below;
        return true;
    }

    public int solve() {
        if (!model.allReady()) {
            return BAD;
        }
        if (rounds > 0) {
            return rounds;
        }
        Arrays.fill(bestPolicy, 0);
        int round = 0;
        boolean better = true;
        while (better && round < MOST_ROUNDS) {
            round++;
            equations.findValues(model, bestPolicy, bestValues);
            better = improve();
        }
        rounds = round;
        return rounds;
    }

    public int policy(int state) {
        if (rounds == 0 || !model.hasState(state)) {
            return BAD;
        }
        return bestPolicy[state];
    }

    public long value(int state, int part) {
        if (rounds == 0 || !model.hasState(state) || part < SIGN_PART) {
            return refusal(part);
        }
        hold(bestValues, state);
        return told.tell(part);
    }

    public long gain(int state, int action, int part) {
        if (rounds == 0 || !model.hasAction(state, action) || part < SIGN_PART) {
            return refusal(part);
        }
        Gain gained = chooser.best;
        gained.weigh(model, model.find(state, action), bestValues);
        told.above.copy(gained.above);
        told.below.copy(bestValues.below);
        told.below.multiply(gained.scale);
        return told.tell(part);
    }

    public long worth(int k, int state, int part) {
        boolean inRange = k >= 0 && k < MOST_ACTIONS && model.hasState(state) && part >= SIGN_PART;
        if (!inRange || !model.allReady()) {
            return refusal(part);
        }
        hold(findWorth(k), state);
        return told.tell(part);
    }

    public long steps(int n, int state, int part) {
        boolean inRange = n >= 0 && n <= MOST_STEPS && model.hasState(state) && part >= SIGN_PART;
        if (!inRange || !model.allReady()) {
            return refusal(part);
        }
        ladder.climb(model, chooser, n);
        hold(ladder.rows[n], state);
        return told.tell(part);
    }

    public int plan(int n, int state) {
        boolean inRange = n >= 1 && n <= MOST_STEPS && model.hasState(state);
        if (!inRange || !model.allReady()) {
            return BAD;
        }
        ladder.climb(model, chooser, n);
        return ladder.picks[n][state];
    }

    public long bound(int n, int part) {
        boolean inRange = n >= 0 && n <= MOST_STEPS && part >= SIGN_PART;
        if (!inRange || !model.allReady()) {
            return refusal(part);
        }
        ladder.climb(model, chooser, 1);
        findBound(n);
        return told.tell(part);
    }

    public boolean best() {
        if (rounds == 0) {
            return false;
        }
        ladder.climb(model, chooser, CHECKED_STEPS);
        return valuesAreGreatestGains() && noWorthIsMore() && stepsKeepBounds();
    }

    public int count(int what) {
        switch (what) {
            case 0:
                return model.states;
            case 1:
                return model.countActions(false);
            case 2:
                return rounds;
            case 3:
                return model.countActions(true);
            default:
                return BAD;
        }
    }

    // A sign may be - 1 itself, so a refused sign needs another answer than BAD.
    private static long refusal(int part) {
        return part == SIGN_PART ? NONE : BAD;
    }

    private void forget() {
        rounds = 0;
        ladder.known = 0;
        for (int k = 0; k < MOST_ACTIONS; k++) {
            worthKnown[k] = false;
        }
    }

    private boolean improve() {
        boolean better = false;
        for (int s = 0; s < model.states; s++) {
            int pick = chooser.greatest(model, s, bestPolicy[s], bestValues);
            better |= pick != bestPolicy[s];
            bestPolicy[s] = pick;
        }
        return better;
    }

    private Row findWorth(int k) {
        if (!worthKnown[k]) {
            for (int s = 0; s < model.states; s++) {
                trial[s] = Math.min(k, model.actionCounts[s] - 1);
            }
            equations.findValues(model, trial, worths[k]);
            worthKnown[k] = true;
        }
        return worths[k];
    }

    // Needs the ladder climbed to step 1; left unreduced for who only compares.
    private void findBound(int n) {
        Row first = ladder.rows[1];
        left.clear();
        for (int s = 0; s < model.states; s++) {
            right.copy(first.above[s]);
            right.dropSign();
            if (left.compare(right) < 0) {
                left.copy(right);
            }
        }
        told.above.copy(left);
        told.above.multiply(model.discountBelow);
        told.below.copy(first.below);
        told.below.multiply(model.discountBelow - model.discountAbove);
        for (int i = 0; i < n; i++) {
            told.above.multiply(model.discountAbove);
            told.below.multiply(model.discountBelow);
        }
    }

    private void hold(Row row, int state) {
        told.above.copy(row.above[state]);
        told.below.copy(row.below);
    }

    private boolean valuesAreGreatestGains() {
        Gain gained = chooser.best;
        for (int s = 0; s < model.states; s++) {
            for (int a = 0; a < model.actionCounts[s]; a++) {
                gained.weigh(model, model.find(s, a), bestValues);
                left.copy(bestValues.above[s]);
                left.multiply(gained.scale);
                int order = left.compare(gained.above);
                if (order < 0 || (order != 0 && a == bestPolicy[s])) {
                    return false;
                }
            }
        }
        return true;
    }

    private boolean noWorthIsMore() {
        for (int k = 0; k < MOST_ACTIONS; k++) {
            Row other = findWorth(k);
            for (int s = 0; s < model.states; s++) {
                left.product(bestValues.above[s], other.below);
                right.product(other.above[s], bestValues.below);
                if (left.compare(right) < 0) {
                    return false;
                }
            }
        }
        return true;
    }

    private boolean stepsKeepBounds() {
        for (int n = 0; n <= CHECKED_STEPS; n++) {
            findBound(n);
            for (int s = 0; s < model.states; s++) {
                if (isFartherThanTold(ladder.rows[n], s)) {
                    return false;
                }
            }
        }
        return true;
    }

    private boolean isFartherThanTold(Row row, int state) {
        left.product(bestValues.above[state], row.below);
        right.product(row.above[state], bestValues.below);
        left.add(right, -1);
        left.settle();
        left.dropSign();
        right.product(left, told.below);
        factor.product(bestValues.below, row.below);
        left.product(factor, told.above);
        return right.compare(left) > 0;
    }

    /** What an action earns and where it leads. */
    private static final class Action {
        final int[] weights;
        int above;
        int below;
        int total;

        Action() {
            weights = new int[MOST_STATES];
            above = 0;
            below = 1;
            total = 0;
        }
    }

    /** All that callers set. */
    private static final class Model {
        final int[] actionCounts;
        final Action[] actions;
        int states;
        int discountAbove;
        int discountBelow;

        Model() {
            actionCounts = new int[MOST_STATES];
            actions = new Action[MOST_STATES * MOST_ACTIONS];
            for (int i = 0; i < actions.length; i++) {
                actions[i] = new Action();
            }
            states = 0;
            discountAbove = 1;
            discountBelow = 2;
        }

        boolean hasState(int state) {
            return state >= 0 && state < states;
        }

        boolean hasAction(int state, int action) {
            return hasState(state) && action >= 0 && action < actionCounts[state];
        }

        Action find(int state, int action) {
            return actions[state * MOST_ACTIONS + action];
        }

        int countActions(boolean onlyReady) {
            int found = 0;
            for (int s = 0; s < states; s++) {
                for (int a = 0; a < actionCounts[s]; a++) {
                    if (!onlyReady || find(s, a).total > 0) {
                        found++;
                    }
                }
            }
            return found;
        }

        boolean allReady() {
            for (int s = 0; s < states; s++) {
                if (actionCounts[s] == 0) {
                    return false;
                }
            }
            return states > 0 && countActions(true) == countActions(false);
        }

        // At most the least common multiple of 1 .. 20, which is below 10 by 9 times.
        int commonRewardBelow() {
            int common = 1;
            for (int s = 0; s < states; s++) {
                for (int a = 0; a < actionCounts[s]; a++) {
                    int below = find(s, a).below;
                    common *= below / commonDivisor(common, below);
                }
            }
            return common;
        }

        private static int commonDivisor(int one, int other) {
            int divisor = other;
            while (divisor > 1 && (one % divisor != 0 || other % divisor != 0)) {
                divisor--;
            }
            return Math.max(divisor, 1);
        }
    }

    /** A value for each state, all with one lower part above 0. */
    private static final class Row {
        final Whole[] above;
        final Whole below;

        Row(int limbs) {
            above = new Whole[MOST_STATES];
            for (int s = 0; s < MOST_STATES; s++) {
                above[s] = new Whole(limbs);
            }
            below = new Whole(limbs);
        }
    }

    /** The gain of one action: above, by scale times the lower part of the row it was weighed under. */
    private static final class Gain {
        final Whole above;
        int scale;

        Gain() {
            above = new Whole(LIMBS);
            scale = 1;
        }

        void weigh(Model model, Action action, Row row) {
            scale = action.below * model.discountBelow * action.total;
            above.clear();
            above.add(row.below, (long) action.above * model.discountBelow * action.total);
            for (int t = 0; t < model.states; t++) {
                above.add(row.above[t], (long) action.below * model.discountAbove * action.weights[t]);
            }
            above.settle();
        }
    }

    /** Finds the action with the greatest gain. */
    private static final class Chooser {
        Gain best;
        private Gain rival;
        private final Whole gap;

        Chooser() {
            best = new Gain();
            rival = new Gain();
            gap = new Whole(LIMBS);
        }

        /** The one to begin with, unless another gains more; best is its gain. */
        int greatest(Model model, int state, int begin, Row row) {
            int pick = begin;
            best.weigh(model, model.find(state, begin), row);
            for (int a = 0; a < model.actionCounts[state]; a++) {
                if (a != begin) {
                    rival.weigh(model, model.find(state, a), row);
                    if (rivalIsMore()) {
                        Gain beaten = best;
                        best = rival;
                        rival = beaten;
                        pick = a;
                    }
                }
            }
            return pick;
        }

        private boolean rivalIsMore() {
            gap.clear();
            gap.add(rival.above, best.scale);
            gap.add(best.above, -rival.scale);
            gap.settle();
            return gap.sign > 0;
        }
    }

    /**
     * The values of a policy, by Cramer's rule. Each equation is made whole by its own lower parts;
     * the minors of the first k rows come from those of the first k - 1, so nothing is ever divided.
     */
    private static final class Equations {
        private final int[][] rows;
        private final Whole[] minors;

        Equations() {
            rows = new int[MOST_STATES][MOST_STATES + 1];
            minors = new Whole[1 << (MOST_STATES + 1)];
            for (int i = 0; i < minors.length; i++) {
                minors[i] = new Whole(VALUE_LIMBS);
            }
        }

        void findValues(Model model, int[] policy, Row values) {
            int n = model.states;
            for (int s = 0; s < n; s++) {
                writeRow(model, s, model.find(s, policy[s]));
            }
            int all = (1 << (n + 1)) - 1;
            minors[0].put(1);
            for (int columns = 1; columns < all; columns++) {
                expand(columns, n);
            }
            // The diagonal outweighs each row, so the determinant is above 0.
            values.below.copy(minors[all >> 1]);
            for (int s = 0; s < n; s++) {
                Whole value = values.above[s];
                value.copy(minors[all ^ (1 << s)]);
                if ((n - 1 - s) % 2 != 0) {
                    value.multiply(-1);
                }
            }
        }

        private void writeRow(Model model, int state, Action action) {
            int[] row = rows[state];
            for (int t = 0; t < model.states; t++) {
                row[t] = -action.below * model.discountAbove * action.weights[t];
            }
            row[state] += action.below * model.discountBelow * action.total;
            row[model.states] = action.above * model.discountBelow * action.total;
        }

        private void expand(int columns, int n) {
            int[] lastRow = rows[Integer.bitCount(columns) - 1];
            Whole minor = minors[columns];
            minor.clear();
            int sign = 1;
            for (int c = n; c >= 0; c--) {
                if ((columns >> c & 1) != 0) {
                    if (lastRow[c] != 0) {
                        minor.add(minors[columns ^ (1 << c)], (long) sign * lastRow[c]);
                    }
                    sign = -sign;
                }
            }
            minor.settle();
        }
    }

    /** Values behind 0 .. 8 steps, and which actions the steps took; kept until something changes. */
    private static final class Ladder {
        final Row[] rows;
        final int[][] picks;
        // How many rows, from step 0 on, hold for the model as it is.
        int known;

        Ladder() {
            rows = new Row[MOST_STEPS + 1];
            for (int n = 0; n <= MOST_STEPS; n++) {
                rows[n] = new Row(LIMBS);
            }
            picks = new int[MOST_STEPS + 1][MOST_STATES];
            known = 0;
        }

        void climb(Model model, Chooser chooser, int n) {
            if (known == 0) {
                begin(model);
                known = 1;
            }
            while (known <= n && known <= MOST_STEPS) {
                step(model, chooser, known);
                known++;
            }
        }

        // All lower parts of rewards divide this lower part, and so those of all steps to come.
        private void begin(Model model) {
            for (int s = 0; s < MOST_STATES; s++) {
                rows[0].above[s].clear();
            }
            rows[0].below.put(model.commonRewardBelow());
        }

        private void step(Model model, Chooser chooser, int n) {
            Row before = rows[n - 1];
            Row after = rows[n];
            long totals = 1;
            for (int s = 0; s < model.states; s++) {
                int pick = chooser.greatest(model, s, 0, before);
                Action action = model.find(s, pick);
                picks[n][s] = pick;
                totals *= action.total;
                after.above[s].copy(chooser.best.above);
                after.above[s].divideSmall(action.below);
            }
            for (int s = 0; s < model.states; s++) {
                int own = Math.max(model.find(s, picks[n][s]).total, 1);
                after.above[s].multiply(totals / own);
            }
            after.below.copy(before.below);
            after.below.multiply(model.discountBelow);
            after.below.multiply(totals);
        }
    }

    /** A fraction that is to be told by parts. */
    private static final class Fraction {
        // Euclid's way takes less than five turns a digit.
        private static final int MOST_TURNS = 1000;

        final Whole above;
        final Whole below;
        private final Whole one;
        private final Whole other;
        private final Whole quotient;

        Fraction() {
            above = new Whole(LIMBS);
            below = new Whole(LIMBS);
            one = new Whole(LIMBS);
            other = new Whole(LIMBS);
            quotient = new Whole(LIMBS);
        }

        long tell(int part) {
            if (part == SIGN_PART) {
                return above.sign;
            }
            reduce();
            return part % 2 == 0 ? above.eighteen(part / 2) : below.eighteen(part / 2);
        }

        // Without sign, as are all parts but the first one.
        private void reduce() {
            above.dropSign();
            Whole divisor = commonDivisor();
            above.divide(divisor, quotient);
            above.copy(quotient);
            below.divide(divisor, quotient);
            below.copy(quotient);
        }

        private Whole commonDivisor() {
            Whole greater = one;
            Whole lesser = other;
            greater.copy(above);
            lesser.copy(below);
            for (int turn = 0; turn < MOST_TURNS && lesser.size > 0; turn++) {
                greater.divide(lesser, quotient);
                Whole rest = greater;
                greater = lesser;
                lesser = rest;
            }
            return greater;
        }
    }

    /**
     * A whole number. Once settled, its limbs hold six digits each, the lowest first, and all bear its sign.
     * Sums may be piled up in the limbs and settled at the end: a limb has room for far more than six digits.
     */
    private static final class Whole {
        private static final long BASE = 1_000_000L;
        private static final int LIMBS_A_PART = 3;
        // A guess falls short by two at the most.
        private static final int MOST_GUESSES = 8;

        private final long[] limbs;
        int size;
        int sign;

        Whole(int room) {
            limbs = new long[room];
            size = 0;
            sign = 0;
        }

        void clear() {
            Arrays.fill(limbs, 0L);
            size = 0;
            sign = 0;
        }

        void put(long number) {
            clear();
            limbs[0] = number;
            settle();
        }

        void copy(Whole from) {
            clear();
            size = Math.min(from.size, limbs.length);
            System.arraycopy(from.limbs, 0, limbs, 0, size);
            sign = from.sign;
        }

        /** Piles up; settle() must follow before the number is used. */
        void add(Whole more, long times) {
            int end = Math.min(more.size, limbs.length);
            for (int i = 0; i < end; i++) {
                limbs[i] += times * more.limbs[i];
            }
        }

        void multiply(long times) {
            for (int i = 0; i < size; i++) {
                limbs[i] *= times;
            }
            settle();
        }

        void product(Whole one, Whole other) {
            clear();
            for (int i = 0; i < one.size; i++) {
                int end = Math.min(other.size, limbs.length - i);
                for (int j = 0; j < end; j++) {
                    limbs[i + j] += one.limbs[i] * other.limbs[j];
                }
            }
            settle();
        }

        void settle() {
            long carry = 0;
            for (int i = 0; i < limbs.length; i++) {
                long piled = limbs[i] + carry;
                carry = Math.floorDiv(piled, BASE);
                limbs[i] = piled - carry * BASE;
            }
            if (carry < 0) {
                turnNegative();
            }
            measure();
        }

        // What stands here is too great by BASE for the limb behind the last one: each limb gives its share back.
        private void turnNegative() {
            boolean begun = false;
            for (int i = 0; i < limbs.length; i++) {
                if (begun) {
                    limbs[i] -= BASE - 1;
                } else if (limbs[i] != 0) {
                    limbs[i] -= BASE;
                    begun = true;
                }
            }
        }

        private void measure() {
            size = limbs.length;
            while (size > 0 && limbs[size - 1] == 0) {
                size--;
            }
            sign = size == 0 ? 0 : limbs[size - 1] < 0 ? -1 : 1;
        }

        void dropSign() {
            if (sign < 0) {
                for (int i = 0; i < size; i++) {
                    limbs[i] = -limbs[i];
                }
                sign = 1;
            }
        }

        int compare(Whole other) {
            for (int i = Math.max(size, other.size) - 1; i >= 0; i--) {
                long mine = limbAt(i);
                long others = other.limbAt(i);
                if (mine != others) {
                    return mine < others ? -1 : 1;
                }
            }
            return 0;
        }

        private long limbAt(int i) {
            return i >= 0 && i < size ? limbs[i] : 0;
        }

        /** Only for divisors that leave no rest. */
        void divideSmall(int by) {
            if (by < 1) {
                return;
            }
            long rest = 0;
            for (int i = size - 1; i >= 0; i--) {
                long dividend = rest * BASE + limbs[i];
                limbs[i] = dividend / by;
                rest = dividend % by;
            }
            measure();
        }

        /** Leaves the rest here; neither number may be below 0. */
        void divide(Whole by, Whole quotient) {
            quotient.clear();
            if (by.size == 0) {
                return;
            }
            for (int shift = size - by.size; shift >= 0; shift--) {
                for (int turn = 0; turn < MOST_GUESSES && reaches(by, shift); turn++) {
                    long times = Math.max(guess(by, shift), 1);
                    takeAway(by, shift, times);
                    quotient.limbs[shift] += times;
                }
            }
            quotient.measure();
        }

        private boolean reaches(Whole by, int shift) {
            if (size != by.size + shift) {
                return size > by.size + shift;
            }
            for (int i = by.size - 1; i >= 0; i--) {
                if (limbs[i + shift] != by.limbs[i]) {
                    return limbs[i + shift] > by.limbs[i];
                }
            }
            return true;
        }

        // Never too great: this number is rounded down, the other one up.
        private long guess(Whole by, int shift) {
            int top = by.size + shift;
            long mine = (limbAt(top) * BASE + limbAt(top - 1)) * BASE + limbAt(top - 2);
            long others = by.limbAt(by.size - 1) * BASE + by.limbAt(by.size - 2) + 1;
            return others > 0 ? mine / others : 0;
        }

        private void takeAway(Whole by, int shift, long times) {
            long carry = 0;
            for (int i = shift; i < size; i++) {
                long left = limbs[i] + carry - times * by.limbAt(i - shift);
                carry = Math.floorDiv(left, BASE);
                limbs[i] = left - carry * BASE;
            }
            measure();
        }

        /** Eighteen digits, the lowest ones for index 0; the number may not be below 0. */
        long eighteen(int index) {
            if (index < 0 || index > limbs.length / LIMBS_A_PART) {
                return 0;
            }
            long digits = 0;
            for (int i = LIMBS_A_PART - 1; i >= 0; i--) {
                digits = digits * BASE + limbAt(index * LIMBS_A_PART + i);
            }
            return digits;
        }
    }
}
