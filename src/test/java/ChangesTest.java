/** Promises 4 and 5: tickets put right and made void. */
public final class ChangesTest {
    private static final int NONE = TicketChain.NONE;
    private static final long TON = 1000000000L;
    private static final long LAST_SECOND = 8000000000L;

    public static void main(String[] args) {
        promise4Fields();
        promise4Edges();
        promise4Refusals();
        promise4Net();
        promise4VehicleKeepsTare();
        promise5Voids();
        Due.end();
    }

    private static void promise4Fields() {
        TicketChain x = new TicketChain();
        x.ticket(1, 2, 300, 100, 90000, 5);
        x.ticket(1, 2, 300, 100, 90000, 5);
        Due.is("vehicle", x.correct(0, 1, 98, 0), 2);
        Due.is("kind", x.correct(0, 2, 8, 1), 3);
        Due.is("gross", x.correct(0, 3, 500, 2), 4);
        Due.is("tare", x.correct(0, 4, 450, 3), 5);
        Due.is("second", x.correct(0, 6, 172800, 4), 6);
        Due.is("person", x.correct(0, 7, 998, 999), 7);
        Due.is("what it is already", x.correct(0, 7, 998, 999), 8);
        long[] due = {0, 98, 8, 500, 450, 50, 172800, 998, 0};
        long[] other = {1, 1, 2, 300, 100, 200, 90000, 5, 0};
        for (int field = 0; field < due.length; field++) {
            Due.is("at(0, " + field + ")", x.at(0, field), due[field]);
            Due.is("at(1, " + field + ")", x.at(1, field), other[field]);
        }
        Due.is("rows()", x.rows(), 9);
        Due.is("made()", x.made(), 2);
    }

    private static void promise4Edges() {
        TicketChain x = new TicketChain();
        x.ticket(1, 2, 300, 0, 90000, 5);
        long[] most = {NONE, 99, 9, TON, TON, NONE, LAST_SECOND, 999, NONE};
        int row = 1;
        for (int field = 1; field < most.length; field++) {
            if (most[field] != NONE) {
                Due.is("the most of field " + field, x.correct(0, field, most[field], 0), row++);
                Due.is("one above", x.correct(0, field, most[field] + 1, 0), NONE);
                Due.is("2^32 above", x.correct(0, field, most[field] + (1L << 32), 0), NONE);
                Due.is("as it became", x.at(0, field), most[field]);
            }
        }
        for (int field = 7; field >= 1; field--) {
            if (most[field] != NONE && field != 3) {
                Due.is("the least of field " + field, x.correct(0, field, 0, 999), row++);
                Due.is("one below", x.correct(0, field, -1, 0), NONE);
                Due.is("as it became", x.at(0, field), 0);
            }
        }
        Due.is("the least gross", x.correct(0, 3, 0, 999), row);
        Due.is("a gross below", x.correct(0, 3, -1, 999), NONE);
    }

    private static void promise4Refusals() {
        TicketChain x = new TicketChain();
        x.follows(0, 1, 10);
        x.ticket(1, 2, 300, 100, 90000, 5);
        Due.is("ticket -1", x.correct(-1, 1, 1, 1), NONE);
        Due.is("ticket 1", x.correct(1, 1, 1, 1), NONE);
        for (int field : new int[] {0, 5, 8, 9, -1, Integer.MAX_VALUE, Integer.MIN_VALUE}) {
            Due.is("field " + field, x.correct(0, field, 1, 1), NONE);
            Due.is("field " + field + " becoming 0", x.correct(0, field, 0, 1), NONE);
            Due.is("field " + field + " becoming -1", x.correct(0, field, -1, 1), NONE);
        }
        Due.is("person -1", x.correct(0, 1, 1, -1), NONE);
        Due.is("person 1000", x.correct(0, 1, 1, 1000), NONE);
        Due.is("a tare of -1 is none", x.correct(0, 4, -1, 1), NONE);
        Due.is("rows()", x.rows(), 1);
        Due.is("vehicle", x.at(0, 1), 1);
        Due.is("tare", x.at(0, 4), 100);
        x.voids(0, 3);
        Due.is("of a void one", x.correct(0, 2, 1, 1), NONE);
        Due.is("kind", x.at(0, 2), 2);
        Due.is("rows()", x.rows(), 2);
    }

    private static void promise4Net() {
        TicketChain x = new TicketChain();
        x.ticket(1, 2, 300, 100, 90000, 5);
        Due.is("gross below the tare", x.correct(0, 3, 99, 1), NONE);
        Due.is("tare above the gross", x.correct(0, 4, 301, 1), NONE);
        Due.is("no number is spoiled", x.made(), 1);
        Due.is("no gap", x.gap(0), NONE);
        Due.is("gross stays", x.at(0, 3), 300);
        Due.is("tare stays", x.at(0, 4), 100);
        Due.is("tare just the gross", x.correct(0, 4, 300, 1), 1);
        Due.is("net", x.at(0, 5), 0);
        Due.is("tare", x.correct(0, 4, 20, 1), 2);
        Due.is("gross just the tare", x.correct(0, 3, 20, 1), 3);
        Due.is("net", x.at(0, 5), 0);
    }

    private static void promise4VehicleKeepsTare() {
        TicketChain x = new TicketChain();
        x.follows(0, 1, 10);
        x.follows(0, 2, 20);
        x.follows(9, 1, 30);
        x.ticket(1, 0, 300, -1, 0, 0);
        x.correct(0, 1, 2, 0);
        Due.is("the tare of another vehicle", x.at(0, 4), 10);
        x.correct(0, 6, 9 * 86400L, 0);
        Due.is("the tare of another day", x.at(0, 4), 10);
    }

    private static void promise5Voids() {
        TicketChain x = new TicketChain();
        x.ticket(1, 2, 300, 100, 90000, 5);
        x.ticket(1, 2, 300, 100, 90000, 5);
        Due.is("reason 0", x.voids(0, 0), NONE);
        Due.is("reason 100", x.voids(0, 100), NONE);
        Due.is("reason -1", x.voids(0, -1), NONE);
        Due.is("ticket -1", x.voids(-1, 1), NONE);
        Due.is("ticket 2", x.voids(2, 1), NONE);
        Due.is("not void yet", x.at(0, 8), 0);
        Due.is("no row yet", x.rows(), 2);
        Due.is("reason 1", x.voids(0, 1), 2);
        Due.is("void twice", x.voids(0, 2), NONE);
        Due.is("its reason", x.at(0, 8), 1);
        Due.is("reason 99", x.voids(1, 99), 3);
        Due.is("its reason", x.at(1, 8), 99);
        Due.is("rows()", x.rows(), 4);
        Due.is("made()", x.made(), 2);
        Due.is("gross stays", x.at(1, 3), 300);
    }
}
