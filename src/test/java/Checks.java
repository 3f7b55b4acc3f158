/** Counts and prints answers that are not as due. */
final class Checks {
    private int asked = 0;
    private int wrong = 0;

    void due(String what, long got, long want) {
        asked++;
        if (got != want) {
            wrong++;
            System.out.println(what + " answered " + got + ", due is " + want);
        }
    }

    void due(String what, boolean got, boolean want) {
        due(what, got ? 1 : 0, want ? 1 : 0);
    }

    /** A fraction as its parts - 1, 0 and 1. */
    void fraction(String what, long[] got, long sign, long above, long below) {
        due(what + ", sign", got[0], sign);
        due(what + ", above", got[1], above);
        due(what + ", below", got[2], below);
    }

    /** Ends the program with exit code 1 if anything was wrong, or nothing was asked. */
    void end() {
        if (wrong > 0 || asked == 0) {
            System.out.println(wrong + " of " + asked + " answers are not as due");
            System.exit(1);
        }
    }
}
