/** Counts and prints answers that are not as due. */
final class Checks {
    private int asked = 0;
    private int wrong = 0;
    private String sentence = "";

    /** Names the document's sentence that the answers from here on belong to. */
    void sentence(String words) {
        sentence = "[" + words + "] ";
    }

    void due(String what, long got, long want) {
        asked++;
        if (got != want) {
            wrong++;
            System.out.println(sentence + what + " answered " + got + ", due is " + want);
        }
    }

    void due(String what, boolean got, boolean want) {
        due(what, got ? 1 : 0, want ? 1 : 0);
    }

    /** A fraction as its parts - 1, 0 and 1. */
    void fraction(String what, long[] got, long sign, long above, long below) {
        due(what + ", sign", got[0], sign);
        due(what + ", above", got[1], above);
        due(what + ", below", got[2], below);
    }

    /** A refused call that tells a fraction: NONE for the sign alone, BAD for every other part. */
    void refused(String what, Parts parts) {
        due(what + ", sign", parts.tell(-1), PolicyWorks.NONE);
        for (int part : new int[] {0, 1, 2, 3, -2, Integer.MAX_VALUE, Integer.MIN_VALUE}) {
            due(what + ", part " + part, parts.tell(part), PolicyWorks.BAD);
        }
    }

    /** A fraction of few digits: all of its parts, and that there are none below the sign's. */
    void told(String what, Parts parts, long sign, long above, long below) {
        due(what + ", sign", parts.tell(-1), sign);
        due(what + ", above", parts.tell(0), above);
        due(what + ", below", parts.tell(1), below);
        due(what + ", behind the last digits above", parts.tell(2), 0);
        due(what + ", behind the last digits below", parts.tell(3), 0);
        due(what + ", no such part", parts.tell(-2), PolicyWorks.BAD);
    }

    /** Ends the program with exit code 1 if anything was wrong, or nothing was asked. */
    void end() {
        if (wrong > 0 || asked == 0) {
            System.out.println(wrong + " of " + asked + " answers are not as due");
            System.exit(1);
        }
    }

    /** A fraction that is told by parts. */
    interface Parts {
        long tell(int part);
    }
}
