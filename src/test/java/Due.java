/** Counts the answers that are not as they are due, for one test's main method. */
final class Due {
    private static int asked = 0;
    private static int wrong = 0;

    private Due() {
    }

    static void is(String call, long got, long want) {
        asked++;
        if (got != want) {
            wrong++;
            System.out.println(call + " answered " + got + ", due is " + want);
        }
    }

    static void is(String call, boolean got, boolean want) {
        is(call, got ? 1L : 0L, want ? 1L : 0L);
    }

    static void is(String call, String got, String want) {
        asked++;
        if (!got.equals(want)) {
            wrong++;
            System.out.println(call + " answered \"" + got + "\", due is \"" + want + "\"");
        }
    }

    /** Asks for a byte that there is not; only this exception itself will do, none below or above it. */
    static void noByte(TicketChain x, int row, int i) {
        String thrown = "nothing";
        try {
            x.byteAt(row, i);
        } catch (RuntimeException e) {
            thrown = e.getClass().getName();
        }
        is("byteAt(" + row + ", " + i + ") throws", thrown, "java.lang.ArrayIndexOutOfBoundsException");
    }

    static void end() {
        System.out.println(asked - wrong + " of " + asked + " answers as they are due");
        if (wrong > 0 || asked == 0) {
            System.exit(1);
        }
    }
}
