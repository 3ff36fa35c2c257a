import java.util.Arrays;

/** Rule 6: only byteAt throws, only where there is no such byte, and what it throws is what the document names. */
public final class ThrownTest {
    private static final String NO_BYTE = "java.lang.ArrayIndexOutOfBoundsException";
    private static final long[] ODD = {
        -1, 0, 1, -2, 2, 3, 5, 7, 8, 9, 31, 32, 40, 41, 62, 63, 72, 73, 99, 100, 199, 200, 201, 255, 256, 399, 400, 999,
        1000, 92592, 100000, 100001, 1000000, 1000001, 1000000000L, 1000000001L, Integer.MAX_VALUE, Integer.MIN_VALUE,
        1L << 31, (1L << 32) - 1, 1L << 32, 8000000000L, 8000000001L, Long.MAX_VALUE, Long.MIN_VALUE
    };
    // Arguments with which each call is answered by an object that has rows; each in turn becomes an odd one.
    private static final long[][] USUAL = {
        {0, 1, 40}, {1, 2, 300, 100, 90000, 5}, {0, 2, 3, 5}, {0, 12}, {0, 5}, {0}, {0}, {}, {}, {0, 1, 2}, {0, 0},
        {0, 0}, {0, 8, 1}, {0, 8}, {0, 8}, {0}, {1, 8}
    };
    private static final int BYTE_AT = 13;
    private static final int STATES = 4;

    public static void main(String[] args) {
        nothingElseReachesTheCaller();
        byItsOwnThrow();
        Due.end();
    }

    private static TicketChain made(int state) {
        TicketChain x = new TicketChain();
        int spoiled = state == 3 ? 400 : 0;
        int tickets = new int[] {0, 3, 198, 0}[state];
        for (int k = 0; k < spoiled; k++) {
            x.ticket(0, 0, 0, 1, 0, 0);
        }
        for (int k = 0; k < tickets; k++) {
            x.ticket(1, 2, 300, 100, 90000, 5);
        }
        x.voids(1, 12);
        x.correct(0, 2, 3, 5);
        x.split(0, 1, 2);
        x.poke(1, 50, 3);
        return x;
    }

    private static void answer(TicketChain x, int call, long[] a) {
        switch (call) {
            case 0 -> x.follows((int) a[0], (int) a[1], a[2]);
            case 1 -> x.ticket((int) a[0], (int) a[1], a[2], a[3], a[4], (int) a[5]);
            case 2 -> x.correct((int) a[0], (int) a[1], a[2], (int) a[3]);
            case 3 -> x.voids((int) a[0], (int) a[1]);
            case 4 -> x.at((int) a[0], (int) a[1]);
            case 5 -> x.number((int) a[0]);
            case 6 -> x.gap((int) a[0]);
            case 7 -> x.rows();
            case 8 -> x.made();
            case 9 -> x.split((int) a[0], (int) a[1], a[2]);
            case 10 -> x.share((int) a[0], (int) a[1]);
            case 11 -> x.print((int) a[0], (int) a[1]);
            case 12 -> x.poke((int) a[0], (int) a[1], (int) a[2]);
            case 13 -> x.byteAt((int) a[0], (int) a[1]);
            case 14 -> x.digest((int) a[0], (int) a[1]);
            case 15 -> x.check((int) a[0]);
            default -> x.root((int) a[0], (int) a[1]);
        }
    }

    private static String thrown(TicketChain x, int call, long[] arguments) {
        try {
            answer(x, call, arguments);
        } catch (Throwable e) {
            return e.getClass().getName();
        }
        return "nothing";
    }

    private static String due(TicketChain x, int call, long[] arguments) {
        if (call != BYTE_AT) {
            return "nothing";
        }
        int row = (int) arguments[0];
        int i = (int) arguments[1];
        return row >= 0 && row < x.rows() && i >= 0 && i <= 72 ? "nothing" : NO_BYTE;
    }

    private static void nothingElseReachesTheCaller() {
        Due.of("15: ArrayIndexOutOfBoundsException: there is none such; nothing else ever reaches the caller");
        for (int state = 0; state < STATES; state++) {
            for (int call = 0; call < USUAL.length; call++) {
                asked(state, call, USUAL[call]);
                for (int place = 0; place < USUAL[call].length; place++) {
                    for (long odd : ODD) {
                        long[] arguments = USUAL[call].clone();
                        arguments[place] = odd;
                        asked(state, call, arguments);
                    }
                }
            }
        }
    }

    private static void asked(int state, int call, long[] arguments) {
        TicketChain x = made(state);
        String due = due(x, call, arguments);
        String what = "call " + call + " with " + Arrays.toString(arguments) + " in state " + state;
        Due.is(what + " throws", thrown(x, call, arguments), due);
    }

    private static void byItsOwnThrow() {
        Due.of("15: the class throws it itself, the machine does not");
        int[][] none = {{0, 73}, {0, -1}, {5, 0}, {-1, 0}, {Integer.MAX_VALUE, 0}, {0, Integer.MIN_VALUE}};
        for (int[] place : none) {
            String said = "nothing";
            try {
                made(1).byteAt(place[0], place[1]);
            } catch (RuntimeException e) {
                said = e.getMessage();
            }
            Due.is("its text is none of the machine's", said, "no such byte of a row");
        }
    }
}
