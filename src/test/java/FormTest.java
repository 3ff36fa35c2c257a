/** Promise 13: the printed form. */
public final class FormTest {
    private static final int NONE = TicketChain.NONE;

    public static void main(String[] args) {
        ordinary();
        shortestAndLongest();
        noSuchByte();
        Due.end();
    }

    /** All bytes of a form up to the first that there is not. */
    private static String formOf(TicketChain x, int ticket) {
        StringBuilder form = new StringBuilder();
        for (int i = 0; i < 100; i++) {
            int sign = x.print(ticket, i);
            if (sign == NONE) {
                break;
            }
            form.append((char) sign);
        }
        return form.toString();
    }

    private static void ordinary() {
        TicketChain x = new TicketChain();
        x.ticket(0, 0, 0, 1, 0, 0);
        x.ticket(30, 4, 1000, 205, 90000, 70);
        Due.is("a ticket", formOf(x, 0), "1 30 4 1000 205 795 90000 70");
        x.correct(0, 3, 205, 3);
        Due.is("corrected", formOf(x, 0), "1 30 4 205 205 0 90000 70");
        x.poke(0, 4, 255);
        x.poke(0, 8, 255);
        Due.is("poked", formOf(x, 0), "1 30 4 205 205 0 90000 70");
        x.voids(0, 7);
        Due.is("void", formOf(x, 0), "1 30 4 205 205 0 90000 70 VOID 7");
    }

    private static void shortestAndLongest() {
        TicketChain x = new TicketChain();
        x.ticket(0, 0, 0, 0, 0, 0);
        Due.is("zeros", formOf(x, 0), "0 0 0 0 0 0 0 0");
        TicketChain y = new TicketChain();
        for (int k = 0; k < 399; k++) {
            y.ticket(0, 0, 0, 1, 0, 0);
        }
        y.ticket(99, 9, 1000000000L, 0, 8000000000L, 999);
        Due.is("a great net", formOf(y, 0), "399 99 9 1000000000 0 1000000000 8000000000 999");
        y.correct(0, 4, 1000000000L, 0);
        y.voids(0, 99);
        Due.is("void", formOf(y, 0), "399 99 9 1000000000 1000000000 0 8000000000 999 VOID 99");
    }

    private static void noSuchByte() {
        TicketChain x = new TicketChain();
        x.ticket(0, 0, 10, 0, 0, 0);
        Due.is("the last byte", x.print(0, 16), '0');
        Due.is("behind the last byte", x.print(0, 17), NONE);
        Due.is("byte -1", x.print(0, -1), NONE);
        Due.is("byte MAX", x.print(0, Integer.MAX_VALUE), NONE);
        Due.is("byte MIN", x.print(0, Integer.MIN_VALUE), NONE);
        Due.is("ticket -1", x.print(-1, 0), NONE);
        Due.is("ticket 1", x.print(1, 0), NONE);
        x.ticket(10, 0, 100000, 0, 0, 0);
        x.print(1, 0);
        Due.is("behind the last byte, another form being longer", x.print(0, 17), NONE);
    }
}
