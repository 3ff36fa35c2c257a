/** Counts the answers that are not as they are due, for one test's main method. */
final class Due {
    private static int asked = 0;
    private static int wrong = 0;
    // The sentence of the document that is asked for, and how much had been asked before it.
    private static String sentence = "";
    private static int askedBefore = 0;

    private Due() {
    }

    /** What is asked from now on is asked for this sentence; one for which nothing was asked is wrong. */
    static void of(String next) {
        endSentence();
        sentence = next;
        askedBefore = asked;
    }

    private static void endSentence() {
        if (!sentence.isEmpty() && asked == askedBefore) {
            wrong++;
            System.out.println("[" + sentence + "] nothing is asked for it");
        }
    }

    private static void say(String call, String got, String want) {
        wrong++;
        String before = sentence.isEmpty() ? "" : "[" + sentence + "] ";
        System.out.println(before + call + " answered " + got + ", due is " + want);
    }

    static void is(String call, long got, long want) {
        asked++;
        if (got != want) {
            say(call, Long.toString(got), Long.toString(want));
        }
    }

    static void is(String call, boolean got, boolean want) {
        is(call, got ? 1L : 0L, want ? 1L : 0L);
    }

    static void is(String call, String got, String want) {
        asked++;
        if (!got.equals(want)) {
            say(call, "\"" + got + "\"", "\"" + want + "\"");
        }
    }

    /** Asks for a byte that there is not; only this exception itself will do, none below or above it. */
    static void noByte(TicketChain x, int row, int i) {
        String thrown = "nothing";
        try {
            x.byteAt(row, i);
        } catch (RuntimeException e) {
            thrown = e.getClass().getName();
        }
        is("byteAt(" + row + ", " + i + ") throws", thrown, "java.lang.ArrayIndexOutOfBoundsException");
    }

    static void end() {
        endSentence();
        System.out.println(asked - wrong + " of " + asked + " answers as they are due");
        if (wrong > 0 || asked == 0) {
            System.exit(1);
        }
    }
}
