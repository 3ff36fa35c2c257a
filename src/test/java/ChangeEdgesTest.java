/** Promises 4 and 5, sentence by sentence: each boundary case that one names has its own method here. */
public final class ChangeEdgesTest {
    private static final int NONE = TicketChain.NONE;
    private static final long DAY = 86400L;
    private static final long TON = 1000000000L;
    private static final long LAST_SECOND = 8000000000L;
    private static final int[] FIELDS = {1, 2, 3, 4, 6, 7};
    private static final long[] GREATEST = {NONE, 99, 9, TON, TON, NONE, LAST_SECOND, 999, NONE};

    public static void main(String[] args) {
        becomesAnother();
        tareStays();
        whatItIsAlready();
        rowsStayOfTheirDay();
        noSuchTicketToCorrect();
        noSuchField();
        noSuchPerson();
        fieldTooSmall();
        fieldTooGreat();
        ticketIsVoid();
        netBelowZeroByGross();
        netBelowZeroByTare();
        rows200ToCorrect();

        voidForAReason();
        noSuchTicketToVoid();
        noSuchReason();
        isVoid();
        rows200ToVoid();
        Due.end();
    }

    /** An object with two tickets alike: vehicle 1, kind 2, gross 300, tare 100, second 90000, person 5. */
    private static TicketChain withTwo() {
        TicketChain x = new TicketChain();
        x.ticket(1, 2, 300, 100, 90000, 5);
        x.ticket(1, 2, 300, 100, 90000, 5);
        return x;
    }

    private static void stays(String what, TicketChain x, int ticket, int rows) {
        long[] due = {ticket, 1, 2, 300, 100, 200, 90000, 5};
        for (int field = 0; field < due.length; field++) {
            Due.is(what + ", at(" + ticket + ", " + field + ")", x.at(ticket, field), due[field]);
        }
        Due.is(what + ", rows()", x.rows(), rows);
    }

    private static void becomesAnother() {
        Due.of("4: A field (1 to 4, 6 or 7) of a ticket becomes another one, with a row. Answers the row's number");
        long[] another = {0, 98, 8, 299, 299, 0, 7999999999L, 998};
        for (int field : FIELDS) {
            TicketChain x = withTwo();
            Due.is("field " + field, x.correct(0, field, another[field], 999), 2);
            Due.is("it is", x.at(0, field), another[field]);
            Due.is("net", x.at(0, 5), x.at(0, 3) - x.at(0, 4));
            for (int other : FIELDS) {
                if (other != field) {
                    Due.is("field " + other + " stays", x.at(0, other), x.at(1, other));
                }
            }
            stays("the other ticket", x, 1, 3);
            Due.is("made()", x.made(), 2);
            Due.is("the next row", x.correct(1, field, another[field], 0), 3);
        }
    }

    /** An object with a ticket of vehicle 1 on day 0, its gross 300 and the vehicle's tare 10; others are known. */
    private static TicketChain withVehiclesTare() {
        TicketChain x = new TicketChain();
        x.follows(0, 1, 10);
        x.follows(0, 2, 20);
        x.follows(9, 1, 30);
        x.follows(9, 2, 400);
        x.ticket(1, 2, 300, -1, 0, 5);
        return x;
    }

    private static void tareAndNet(String what, TicketChain x, long tare, long net) {
        Due.is(what + ", tare", x.at(0, 4), tare);
        Due.is(what + ", net", x.at(0, 5), net);
    }

    private static void tareStays() {
        Due.of("4: A field of a ticket becomes another one, and no other; the net is gross less tare");
        TicketChain x = withVehiclesTare();
        tareAndNet("as it was made", x, 10, 290);
        Due.is("another vehicle", x.correct(0, 1, 2, 0), 1);
        tareAndNet("another vehicle", x, 10, 290);
        Due.is("another day, when the vehicle weighs more than the gross", x.correct(0, 6, 9 * DAY, 0), 2);
        tareAndNet("another day", x, 10, 290);
        Due.is("a vehicle of which no tare is known", x.correct(0, 1, 3, 0), 3);
        tareAndNet("no tare known", x, 10, 290);
        Due.is("another gross", x.correct(0, 3, 299, 0), 4);
        tareAndNet("another gross", x, 10, 289);
        Due.is("another tare", x.correct(0, 4, 99, 0), 5);
        tareAndNet("another tare", x, 99, 200);
        Due.is("the vehicle that it was", x.correct(0, 1, 1, 0), 6);
        tareAndNet("the vehicle that it was", x, 99, 200);
        Due.is("a tare of -1 is no tare of a ticket", x.correct(0, 4, -1, 0), NONE);
        tareAndNet("a tare of -1", x, 99, 200);
        Due.is("a row for each, and none for the tare", x.rows(), 7);
    }

    private static void whatItIsAlready() {
        Due.of("4: (Also what it is already");
        TicketChain x = withTwo();
        for (int k = 0; k < FIELDS.length; k++) {
            Due.is("field " + FIELDS[k], x.correct(0, FIELDS[k], x.at(0, FIELDS[k]), 5), 2 + k);
        }
        stays("nothing else", x, 0, 8);
        Due.is("the row tells the field", x.byteAt(2, 8), 1);
        Due.is("the row tells what it is", x.byteAt(2, 16), 1);
        Due.is("the second's row is of the same day", x.root(1, 0) != NONE, true);
        Due.is("check(0)", x.check(0), 0);
    }

    private static void rowsStayOfTheirDay() {
        Due.of("4: rows that there are stay of their day.)");
        TicketChain x = new TicketChain();
        x.ticket(0, 0, 5, 0, 2 * DAY - 1, 0);
        Due.is("day 1, one row", x.root(1, 0), x.digest(0, 0));
        x.correct(0, 6, 2 * DAY, 0);
        Due.is("day 1, the row that there was", x.root(1, 31), x.digest(0, 31));
        Due.is("day 2, the correction's row", x.root(2, 31), x.digest(1, 31));
        x.correct(0, 6, 2 * DAY - 1, 0);
        Due.is("day 2, when the second is back", x.root(2, 31), x.digest(1, 31));
        x.correct(0, 6, LAST_SECOND, 0);
        Due.is("the last day", x.root(92592, 31), x.digest(3, 31));
        x.voids(0, 1);
        Due.is("day 2, when the ticket is void", x.root(2, 31), x.digest(1, 31));
        Due.is("the row's own second stays", x.byteAt(0, 36), (2 * DAY - 1) & 255);
    }

    private static void noSuchTicketToCorrect() {
        Due.of("4: NONE when there is no such ticket");
        Due.is("no ticket", new TicketChain().correct(0, 1, 1, 1), NONE);
        TicketChain x = withTwo();
        x.ticket(0, 0, 0, 1, 0, 0);
        for (int ticket : new int[] {-1, 2, 3, Integer.MAX_VALUE, Integer.MIN_VALUE}) {
            Due.is("ticket " + ticket, x.correct(ticket, 1, 1, 1), NONE);
        }
        stays("the first", x, 0, 2);
        stays("the last", x, 1, 2);
        Due.is("the first ticket", x.correct(0, 1, 7, 1), 2);
        Due.is("the last ticket", x.correct(1, 1, 8, 1), 3);
    }

    private static void noSuchField() {
        Due.of("4: NONE when there is no such .. field");
        TicketChain x = withTwo();
        for (int field : new int[] {-1, 0, 5, 8, 9, 10, Integer.MAX_VALUE, Integer.MIN_VALUE}) {
            for (long v : new long[] {-1, 0, 1, 200, Long.MIN_VALUE}) {
                Due.is("field " + field + ", " + v, x.correct(0, field, v, 1), NONE);
            }
        }
        stays("it", x, 0, 2);
        Due.is("it is not void", x.at(0, 8), 0);
    }

    private static void noSuchPerson() {
        Due.of("4: NONE when there is no such .. person");
        TicketChain x = withTwo();
        for (int person : new int[] {-1, 1000, 1024, Integer.MAX_VALUE, Integer.MIN_VALUE}) {
            Due.is("person " + person, x.correct(0, 2, 3, person), NONE);
            Due.is("the person becoming another, person " + person, x.correct(0, 7, 3, person), NONE);
        }
        stays("it", x, 0, 2);
        Due.is("person 0", x.correct(0, 2, 3, 0), 2);
        Due.is("person 999", x.correct(0, 2, 3, 999), 3);
        Due.is("who did it becomes not the ticket's person", x.at(0, 7), 5);
    }

    private static void fieldTooSmall() {
        Due.of("4: NONE when .. the field can't be that: too small");
        for (int field : FIELDS) {
            TicketChain x = withTwo();
            x.correct(0, 4, 0, 0);
            for (long v : new long[] {-1, -(1L << 32), Long.MIN_VALUE}) {
                Due.is("field " + field + ", " + v, x.correct(0, field, v, 0), NONE);
            }
            Due.is("rows()", x.rows(), 3);
            Due.is("field " + field + ", 0", x.correct(0, field, 0, 0), 3);
            Due.is("it is 0", x.at(0, field), 0);
        }
    }

    private static void fieldTooGreat() {
        Due.of("4: NONE when .. the field can't be that: too great");
        for (int field : FIELDS) {
            TicketChain x = withTwo();
            x.correct(0, 3, TON, 0);
            for (long v : new long[] {GREATEST[field] + 1, (1L << 40) + 3, Long.MAX_VALUE}) {
                Due.is("field " + field + ", " + v, x.correct(0, field, v, 0), NONE);
            }
            Due.is("rows()", x.rows(), 3);
            Due.is("field " + field + ", the greatest", x.correct(0, field, GREATEST[field], 0), 3);
            Due.is("it is the greatest", x.at(0, field), GREATEST[field]);
        }
    }

    private static void ticketIsVoid() {
        Due.of("4: NONE when .. the ticket is void");
        TicketChain x = withTwo();
        x.voids(0, 1);
        for (int field : FIELDS) {
            Due.is("field " + field, x.correct(0, field, x.at(0, field), 1), NONE);
        }
        stays("the void one", x, 0, 3);
        Due.is("the other ticket", x.correct(1, 1, 1, 1), 3);
    }

    private static void netBelowZeroByGross() {
        Due.of("4: NONE when .. its net would be below 0, by the gross");
        TicketChain x = withTwo();
        Due.is("gross 99", x.correct(0, 3, 99, 1), NONE);
        Due.is("gross 0", x.correct(0, 3, 0, 1), NONE);
        stays("it", x, 0, 2);
        Due.is("made()", x.made(), 2);
        Due.is("gap(0)", x.gap(0), NONE);
        Due.is("gross 100", x.correct(0, 3, 100, 1), 2);
        Due.is("net", x.at(0, 5), 0);
    }

    private static void netBelowZeroByTare() {
        Due.of("4: NONE when .. its net would be below 0, by the tare");
        TicketChain x = withTwo();
        Due.is("tare 301", x.correct(0, 4, 301, 1), NONE);
        Due.is("tare 1000000000", x.correct(0, 4, TON, 1), NONE);
        stays("it", x, 0, 2);
        Due.is("made()", x.made(), 2);
        Due.is("gap(0)", x.gap(0), NONE);
        Due.is("tare 300", x.correct(0, 4, 300, 1), 2);
        Due.is("net", x.at(0, 5), 0);
        Due.is("another field of a net of 0", x.correct(0, 1, 9, 1), 3);
    }

    private static void rows200ToCorrect() {
        Due.of("4: NONE when .. there are 200 rows");
        TicketChain x = withTwo();
        for (int row = 2; row < 200; row++) {
            Due.is("row " + row, x.correct(0, 2, row % 10, 1), row);
        }
        Due.is("kind", x.at(0, 2), 9);
        for (int field : FIELDS) {
            Due.is("field " + field, x.correct(1, field, 200, 1), NONE);
            Due.is("field " + field + ", what it is", x.correct(1, field, x.at(1, field), 1), NONE);
        }
        stays("it", x, 1, 200);
        Due.is("check(0)", x.check(0), 0);
    }

    private static void voidForAReason() {
        Due.of("5: A ticket is void for a reason, with a row. Answers the row's number");
        TicketChain x = withTwo();
        Due.is("the least reason", x.voids(1, 1), 2);
        Due.is("at(1, 8)", x.at(1, 8), 1);
        Due.is("at(0, 8)", x.at(0, 8), 0);
        Due.is("the greatest reason", x.voids(0, 99), 3);
        Due.is("at(0, 8)", x.at(0, 8), 99);
        stays("its other fields", x, 0, 4);
        Due.is("its row's sort", x.byteAt(3, 0), 3);
        Due.is("its row's reason", x.byteAt(3, 8), 99);
        Due.is("made()", x.made(), 2);
        Due.is("gap(0)", x.gap(0), NONE);
    }

    private static void noSuchTicketToVoid() {
        Due.of("5: NONE when there is no such ticket");
        Due.is("no ticket", new TicketChain().voids(0, 1), NONE);
        TicketChain x = withTwo();
        x.ticket(0, 0, 0, 1, 0, 0);
        for (int ticket : new int[] {-1, 2, 3, Integer.MAX_VALUE, Integer.MIN_VALUE}) {
            Due.is("ticket " + ticket, x.voids(ticket, 1), NONE);
        }
        Due.is("rows()", x.rows(), 2);
        Due.is("at(0, 8)", x.at(0, 8), 0);
        Due.is("at(1, 8)", x.at(1, 8), 0);
    }

    private static void noSuchReason() {
        Due.of("5: NONE when there is no such .. reason (1 .. 99)");
        TicketChain x = withTwo();
        for (int reason : new int[] {0, -1, 100, 256, 257, Integer.MAX_VALUE, Integer.MIN_VALUE}) {
            Due.is("reason " + reason, x.voids(0, reason), NONE);
            Due.is("at(0, 8)", x.at(0, 8), 0);
        }
        stays("it", x, 0, 2);
        Due.is("it can be put right still", x.correct(0, 2, 2, 0), 2);
    }

    private static void isVoid() {
        Due.of("5: NONE when .. it is void");
        TicketChain x = withTwo();
        x.voids(0, 12);
        Due.is("for another reason", x.voids(0, 13), NONE);
        Due.is("for the same reason", x.voids(0, 12), NONE);
        Due.is("the reason stays", x.at(0, 8), 12);
        Due.is("rows()", x.rows(), 3);
        Due.is("the other ticket", x.voids(1, 13), 3);
    }

    private static void rows200ToVoid() {
        Due.of("5: NONE when .. there are 200 rows");
        TicketChain x = withTwo();
        for (int row = 2; row < 199; row++) {
            x.correct(0, 2, row % 10, 1);
        }
        Due.is("row 199", x.voids(0, 5), 199);
        Due.is("one more", x.voids(1, 5), NONE);
        Due.is("at(1, 8)", x.at(1, 8), 0);
        Due.is("rows()", x.rows(), 200);
        Due.is("a row 200", x.digest(200, 0), NONE);
        Due.is("check(0)", x.check(0), 0);
    }
}
