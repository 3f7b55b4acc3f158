import java.math.BigInteger;

/** Terms: "FRACTIONS are told in least terms (0 as 0 / 1) by PARTS", a test for each edge of that. */
final class FractionEdgesTest {
    private static final Checks checks = new Checks();
    private static final BigInteger EIGHTEEN = BigInteger.TEN.pow(18);

    public static void main(String[] args) {
        leastTerms();
        zeroIsZeroByOne();
        signs();
        lowestEighteenDigits();
        ninesAndZerosBelowZero();
        zerosAmongTheDigits();
        eighteenAndNineteenDigitsAbove();
        eighteenAndNineteenDigitsBelow();
        thirtySixAndThirtySevenDigits();
        seventyTwoAndSeventyThreeDigits();
        zeroBehindTheLastOnes();
        noPartBelowTheSign();
        checks.end();
    }

    /** State 0 earns this, and has itself with a share of 1 / 100 behind it; by a discount of 1 / 10, that is 1 / 1,000. */
    private static PolicyWorks thousandth(int above, int below) {
        PolicyWorks x = Models.bare(6, 1);
        int[] weights = {1, 19, 20, 20, 20, 20};
        for (int s = 0; s < 6; s++) {
            x.move(s, 0, s, 1);
            x.move(0, 0, s, weights[s]);
        }
        x.reward(0, 0, above, below);
        x.discount(1, 10);
        return x;
    }

    /** One action a state. */
    private static PolicyWorks chance(int[][] weights, int[][] rewards, int above, int below) {
        PolicyWorks x = Models.bare(weights.length, 1);
        for (int s = 0; s < weights.length; s++) {
            x.reward(s, 0, rewards[s][0], rewards[s][1]);
            for (int t = 0; t < weights.length; t++) {
                x.move(s, 0, t, weights[s][t]);
            }
        }
        x.discount(above, below);
        return x;
    }

    /** All parts of a fraction with so many digits above and below, up to some behind the last ones. */
    private static void longFraction(String what, Checks.Parts parts, String fraction, int digitsAbove, int digitsBelow) {
        BigInteger above = new BigInteger(fraction.substring(0, fraction.indexOf('/')));
        BigInteger below = new BigInteger(fraction.substring(fraction.indexOf('/') + 1));
        checks.due(what + ": digits above", above.abs().toString().length(), digitsAbove);
        checks.due(what + ": digits below", below.toString().length(), digitsBelow);
        checks.due(what + ": sign", parts.tell(-1), above.signum());
        BigInteger up = above.abs();
        BigInteger low = below;
        for (int part = 0; part < 24; part += 2) {
            checks.due(what + ": part " + part, parts.tell(part), up.mod(EIGHTEEN).longValueExact());
            checks.due(what + ": part " + (part + 1), parts.tell(part + 1), low.mod(EIGHTEEN).longValueExact());
            up = up.divide(EIGHTEEN);
            low = low.divide(EIGHTEEN);
        }
    }

    private static void leastTerms() {
        checks.sentence("Terms: in least terms");
        PolicyWorks x = Models.loops(1, 0);
        x.reward(0, 0, 15, 20);
        x.reward(0, 1, -12, 16);
        x.discount(12, 16);
        x.solve();
        checks.told("value", part -> x.value(0, part), 1, 3, 1);
        checks.told("gain", part -> x.gain(0, 1, part), 1, 3, 2);
        checks.told("worth", part -> x.worth(1, 0, part), -1, 3, 1);
        checks.told("steps", part -> x.steps(2, 0, part), 1, 21, 16);
        checks.told("bound", part -> x.bound(1, part), 1, 9, 4);
        x.reward(0, 0, -1000, 20);
        x.reward(0, 1, -1000, 20);
        checks.told("a whole number below 0", part -> x.steps(1, 0, part), -1, 50, 1);
    }

    private static void zeroIsZeroByOne() {
        checks.sentence("Terms: 0 as 0 / 1");
        PolicyWorks x = Models.loops(0, 0);
        x.reward(0, 0, 0, 20);
        x.reward(0, 1, 0, 7);
        x.discount(19, 20);
        x.solve();
        checks.told("value", part -> x.value(0, part), 0, 0, 1);
        checks.told("gain", part -> x.gain(0, 1, part), 0, 0, 1);
        checks.told("worth", part -> x.worth(1, 0, part), 0, 0, 1);
        checks.told("0 steps", part -> x.steps(0, 0, part), 0, 0, 1);
        checks.told("8 steps", part -> x.steps(8, 0, part), 0, 0, 1);
        checks.told("bound", part -> x.bound(8, part), 0, 0, 1);
        // 3 now, and by 1 / 2 what is worth - 6: nothing is left.
        PolicyWorks y = Models.bare(2, 1);
        y.move(0, 0, 1, 1);
        y.move(1, 0, 1, 1);
        y.reward(0, 0, 3, 1);
        y.reward(1, 0, -3, 1);
        y.solve();
        checks.told("as much above 0 as below", part -> y.value(0, part), 0, 0, 1);
        checks.told("so for the gain", part -> y.gain(0, 0, part), 0, 0, 1);
    }

    private static void signs() {
        checks.sentence("Terms: - 1 the sign; the rest without sign");
        for (int sign = -1; sign <= 1; sign += 2) {
            int due = sign;
            PolicyWorks x = Models.loops(5 * sign);
            x.solve();
            checks.told("value", part -> x.value(0, part), due, 10, 1);
            checks.told("gain", part -> x.gain(0, 0, part), due, 10, 1);
            checks.told("worth", part -> x.worth(0, 0, part), due, 10, 1);
            checks.told("steps", part -> x.steps(2, 0, part), due, 15, 2);
            checks.told("bound", part -> x.bound(2, part), 1, 5, 2);
        }
    }

    private static void lowestEighteenDigits() {
        checks.sentence("Terms: 0 and 1 the lowest eighteen digits");
        // Six steps: 1.001001001001001, and 999 of them are eighteen nines above.
        PolicyWorks x = thousandth(999, 1);
        checks.told("the greatest of eighteen digits", part -> x.steps(6, 0, part), 1,
            999_999_999_999_999_999L, 1_000_000_000_000_000L);
        PolicyWorks y = thousandth(-999, 1);
        checks.told("below 0", part -> y.steps(6, 0, part), -1, 999_999_999_999_999_999L, 1_000_000_000_000_000L);
    }

    private static void ninesAndZerosBelowZero() {
        checks.sentence("Terms: the lowest eighteen digits, without sign");
        // - 999 * 13 * 77 is - 999999, and 13 * 77 - 12 * 20 is 761.
        PolicyWorks x = fourStates(new int[] {20, 20, 20, 17}, -999);
        x.discount(12, 13);
        x.solve();
        checks.told("nines", part -> x.value(0, part), -1, 999_999, 761);
        checks.told("nines, worth", part -> x.worth(0, 0, part), -1, 999_999, 761);
        checks.told("nines, gain", part -> x.gain(0, 0, part), -1, 999_999, 761);
        checks.told("nines, reduced", part -> x.steps(1, 0, part), -1, 999, 1);
        // - 1000 * 20 * 50 is - 1000000, and 20 * 50 - 19 * 3 is 943.
        PolicyWorks y = fourStates(new int[] {3, 20, 20, 7}, -1000);
        y.discount(19, 20);
        y.solve();
        checks.told("zeros", part -> y.value(0, part), -1, 1_000_000, 943);
        checks.told("zeros, worth", part -> y.worth(0, 0, part), -1, 1_000_000, 943);
        checks.told("zeros, gain", part -> y.gain(0, 0, part), -1, 1_000_000, 943);
        checks.told("zeros, reduced", part -> y.steps(1, 0, part), -1, 1000, 1);
    }

    /** State 0 earns this and leads to all by these weights; the others earn nothing and stay. */
    private static PolicyWorks fourStates(int[] weights, int reward) {
        PolicyWorks x = Models.bare(4, 1);
        for (int s = 0; s < 4; s++) {
            x.move(s, 0, s, 1);
            x.move(0, 0, s, weights[s]);
        }
        x.reward(0, 0, reward, 1);
        return x;
    }

    private static void zerosAmongTheDigits() {
        checks.sentence("Terms: 2 and 3 the next eighteen");
        // Seven steps: 1001001001001001001 by 10 by 18 times, the least number of nineteen digits.
        PolicyWorks x = thousandth(1, 1);
        checks.due("lowest above", x.steps(7, 0, 0), 1_001_001_001_001_001L);
        checks.due("lowest below: all are 0", x.steps(7, 0, 1), 0);
        checks.due("next above", x.steps(7, 0, 2), 1);
        checks.due("next below", x.steps(7, 0, 3), 1);
        checks.due("none behind above", x.steps(7, 0, 4), 0);
        checks.due("none behind below", x.steps(7, 0, 5), 0);
        checks.due("eight steps, lowest below", x.steps(8, 0, 1), 0);
        checks.due("eight steps, next above", x.steps(8, 0, 2), 1001);
        checks.due("eight steps, next below", x.steps(8, 0, 3), 1000);
        PolicyWorks y = thousandth(-1, 20);
        checks.due("sign", y.steps(7, 0, -1), -1);
        checks.due("20 by 10 by 18 times, lowest", y.steps(7, 0, 1), 0);
        checks.due("20 by 10 by 18 times, next", y.steps(7, 0, 3), 20);
    }

    private static void eighteenAndNineteenDigitsAbove() {
        checks.sentence("Terms: eighteen digits above, and nineteen");
        PolicyWorks x = chance(
            new int[][] {{11, 10, 6, 3}, {5, 10, 16, 6}, {2, 3, 20, 18}, {13, 2, 8, 20}},
            new int[][] {{-296, 9}, {-67, 14}, {-351, 1}, {438, 1}}, 11, 17);
        longFraction("eighteen", part -> x.steps(4, 1, part), "-278525187120357343/5217973895167740", 18, 16);
        longFraction("nineteen", part -> x.steps(4, 0, part), "-1451497844147095133/21153948223653000", 19, 17);
    }

    private static void eighteenAndNineteenDigitsBelow() {
        checks.sentence("Terms: eighteen digits below, and nineteen");
        PolicyWorks x = chance(
            new int[][] {{4, 13, 18, 5}, {11, 3, 10, 6}, {5, 9, 16, 11}, {10, 2, 3, 18}},
            new int[][] {{94, 3}, {-943, 1}, {-751, 2}, {197, 1}}, 7, 13);
        longFraction("eighteen", part -> x.steps(5, 0, part), "-143078233936210747913/435324824597520000", 21, 18);
        longFraction("nineteen", part -> x.steps(5, 1, part), "-7904895284727993762703/6791067263721312000", 22, 19);
    }

    private static void thirtySixAndThirtySevenDigits() {
        checks.sentence("Terms: and so on, behind thirty-six digits");
        PolicyWorks x = chance(
            new int[][] {{11, 16, 9, 10, 16, 13}, {5, 4, 13, 18, 6, 16}, {11, 6, 3, 16, 9, 17},
                {18, 17, 12, 3, 12, 19}, {2, 10, 12, 18, 9, 16}, {9, 10, 11, 6, 19, 1}},
            new int[][] {{-29, 18}, {584, 9}, {-37, 1}, {-26, 5}, {672, 17}, {325, 12}}, 5, 13);
        longFraction("thirty-six", part -> x.steps(6, 4, part),
            "46618533956161127800471682379797078483/964061903834098396189698602081952000", 38, 36);
        longFraction("thirty-seven", part -> x.steps(6, 1, part),
            "202448502017771956228722082039740205669/2854774354040076444836361233627750400", 39, 37);
        longFraction("below 0", part -> x.steps(6, 2, part),
            "-13864511276128010909250883422485057065981/513859383727213760070545022052995072000", 41, 39);
    }

    private static void seventyTwoAndSeventyThreeDigits() {
        checks.sentence("Terms: and so on, behind seventy-two digits");
        PolicyWorks x = chance(
            new int[][] {{19, 9, 9, 1, 20, 15}, {15, 19, 8, 10, 7, 2}, {17, 20, 8, 14, 1, 2},
                {12, 8, 16, 17, 1, 4}, {8, 5, 12, 5, 16, 1}, {12, 15, 16, 16, 3, 7}},
            new int[][] {{25, 3}, {286, 5}, {535, 6}, {375, 1}, {-142, 5}, {-25, 2}}, 1, 5);
        longFraction("seventy-two", part -> x.steps(8, 1, part),
            "433389474558566870405687909424984165164001030510207975104992766244227693"
            + "/5476298598773093409232690552655343335363668524718722061044625893750000", 72, 70);
        longFraction("seventy-three", part -> x.steps(8, 3, part),
            "4252595857126734919455908647995392292774697356780290412910906331991215693"
            + "/10413944876355390745426100067344587326265336866678225558707813175000000", 73, 71);
        longFraction("below 0", part -> x.steps(8, 4, part),
            "-4162943577114525849388932016855322708677329665457284019346672568622817"
            + "/337555454612898872437949450458755589196186781195776966385701530500000", 70, 69);
    }

    private static void zeroBehindTheLastOnes() {
        checks.sentence("Terms: 0 behind the last ones");
        PolicyWorks x = Models.pair();
        x.solve();
        int[] behind = {2, 3, 4, 5, 14, 15, 16, 17, 18, 19, 100, 101, 1 << 30, (1 << 30) + 1,
            Integer.MAX_VALUE - 1, Integer.MAX_VALUE};
        for (int part : behind) {
            checks.due("value, part " + part, x.value(0, part), 0);
            checks.due("gain, part " + part, x.gain(1, 1, part), 0);
            checks.due("worth, part " + part, x.worth(1, 0, part), 0);
            checks.due("steps, part " + part, x.steps(3, 0, part), 0);
            checks.due("bound, part " + part, x.bound(8, part), 0);
        }
    }

    private static void noPartBelowTheSign() {
        checks.sentence("9 to 14: BAD: none such (a part below - 1)");
        PolicyWorks x = Models.pair();
        x.solve();
        for (int part : new int[] {-2, -3, -4, Integer.MIN_VALUE, Integer.MIN_VALUE + 1}) {
            checks.due("value, part " + part, x.value(0, part), PolicyWorks.BAD);
            checks.due("gain, part " + part, x.gain(0, 0, part), PolicyWorks.BAD);
            checks.due("worth, part " + part, x.worth(0, 0, part), PolicyWorks.BAD);
            checks.due("steps, part " + part, x.steps(1, 0, part), PolicyWorks.BAD);
            checks.due("bound, part " + part, x.bound(1, part), PolicyWorks.BAD);
        }
    }
}
