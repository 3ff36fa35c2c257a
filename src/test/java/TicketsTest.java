/** Promises 1 to 3 and 6 to 10: tares, tickets, their fields and numbers, and what is counted. */
public final class TicketsTest {
    private static final int NONE = TicketChain.NONE;
    private static final int SPOILED = TicketChain.SPOILED;
    private static final long TON = 1000000000L;
    private static final long LAST_SECOND = 8000000000L;

    public static void main(String[] args) {
        promise1NewObject();
        promise2Follows();
        promise2TicketsStay();
        promise2ManyTares();
        promise3Ticket();
        promise3FieldsThatAreNotSuch();
        promise3Tares();
        promise3Spoiled();
        promise3Rows200();
        promise3Numbers400();
        promise6At();
        promise7Number();
        promise8Gap();
        promises9And10Counts();
        Due.end();
    }

    private static void promise1NewObject() {
        TicketChain x = new TicketChain();
        Due.is("rows()", x.rows(), 0);
        Due.is("made()", x.made(), 0);
        Due.is("number(0)", x.number(0), NONE);
        Due.is("at(0, 0)", x.at(0, 0), NONE);
        Due.is("gap(0)", x.gap(0), NONE);
        Due.is("share(0, 0)", x.share(0, 0), NONE);
        Due.is("print(0, 0)", x.print(0, 0), NONE);
        Due.is("digest(0, 0)", x.digest(0, 0), NONE);
        Due.is("root(0, 0)", x.root(0, 0), NONE);
        Due.is("check(0)", x.check(0), 0);
        Due.is("check(1)", x.check(1), NONE);
        Due.noByte(x, 0, 0);
        for (int vehicle = 0; vehicle < 100; vehicle++) {
            Due.is("ticket of an unknown tare", x.ticket(vehicle, 0, TON, -1, LAST_SECOND, 0), NONE);
        }
        Due.is("two objects share nothing", x.follows(0, 0, 1), true);
        Due.is("of another object", new TicketChain().ticket(0, 0, 5, -1, 0, 0), NONE);
    }

    private static void promise2Follows() {
        TicketChain x = new TicketChain();
        Due.is("follows(0, 0, 0)", x.follows(0, 0, 0), true);
        Due.is("follows(100000, 99, TON)", x.follows(100000, 99, TON), true);
        Due.is("follows(-1, ..)", x.follows(-1, 0, 1), false);
        Due.is("follows(100001, ..)", x.follows(100001, 0, 1), false);
        Due.is("follows(MIN, ..)", x.follows(Integer.MIN_VALUE, 0, 1), false);
        Due.is("follows(.., -1, ..)", x.follows(0, -1, 1), false);
        Due.is("follows(.., 100, ..)", x.follows(0, 100, 1), false);
        Due.is("follows(.., -1)", x.follows(0, 0, -1), false);
        Due.is("follows(.., TON + 1)", x.follows(0, 0, TON + 1), false);
        Due.is("follows(.., 2^32)", x.follows(0, 0, 1L << 32), false);
        Due.is("a tare that was refused is not known", tareOn(x, 0, 0), 0);

        TicketChain y = new TicketChain();
        y.follows(5, 1, 60);
        y.follows(2, 1, 50);
        y.follows(3, 2, 77);
        Due.is("before the first day", tareOn(y, 1, 1), NONE);
        Due.is("on the first day", tareOn(y, 1, 2), 50);
        Due.is("the next day", tareOn(y, 1, 3), 50);
        Due.is("the last day of the first", tareOn(y, 1, 4), 50);
        Due.is("the day of the second", tareOn(y, 1, 5), 60);
        Due.is("long after", tareOn(y, 1, 92592), 60);
        Due.is("another vehicle", tareOn(y, 2, 3), 77);
        Due.is("follows(2, 1, 55), told again", y.follows(2, 1, 55), true);
        Due.is("told again", tareOn(y, 1, 4), 55);
        Due.is("told again, behind the next", tareOn(y, 1, 5), 60);
        y.follows(4, 1, 58);
        Due.is("told between, the day before", tareOn(y, 1, 3), 55);
        Due.is("told between", tareOn(y, 1, 4), 58);
        Due.is("told between, the day after", tareOn(y, 1, 5), 60);
    }

    /** The tare that a ticket of the day's first second gets, NONE when none is known. */
    private static long tareOn(TicketChain x, int vehicle, int day) {
        int ticket = x.ticket(vehicle, 0, TON, -1, day * 86400L, 0);
        return ticket < 0 ? ticket : x.at(ticket, 4);
    }

    private static void promise2TicketsStay() {
        TicketChain x = new TicketChain();
        x.follows(0, 0, 10);
        x.ticket(0, 0, 100, -1, 0, 0);
        x.follows(0, 0, 20);
        Due.is("a ticket's tare stays", x.at(0, 4), 10);
        Due.is("a ticket's net stays", x.at(0, 5), 90);
        Due.is("no row for a tare", x.rows(), 1);
        Due.is("no number for a tare", x.made(), 1);
    }

    private static void promise2ManyTares() {
        TicketChain x = new TicketChain();
        for (int k = 0; k < 510; k++) {
            Due.is("follows as often as there are calls", x.follows(k, k % 100, k), true);
        }
        Due.is("the last of them", x.ticket(9, 0, 600, -1, 511 * 86400L, 0), 0);
        Due.is("the last of them, its tare", x.at(0, 4), 509);
    }

    private static void promise3Ticket() {
        TicketChain x = new TicketChain();
        Due.is("the first ticket", x.ticket(1, 2, 300, 40, 86400, 7), 0);
        Due.is("the least of all fields", x.ticket(0, 0, 0, 0, 0, 0), 1);
        Due.is("the most of all fields", x.ticket(99, 9, TON, TON, LAST_SECOND, 999), 2);
        Due.is("rows()", x.rows(), 3);
        Due.is("made()", x.made(), 3);
    }

    private static void promise3FieldsThatAreNotSuch() {
        TicketChain x = new TicketChain();
        x.follows(0, 0, 1);
        Due.is("vehicle -1", x.ticket(-1, 0, 5, 1, 0, 0), NONE);
        Due.is("vehicle 100", x.ticket(100, 0, 5, 1, 0, 0), NONE);
        Due.is("vehicle 100 of a tare of -1", x.ticket(100, 0, 5, -1, 0, 0), NONE);
        Due.is("kind -1", x.ticket(0, -1, 5, 1, 0, 0), NONE);
        Due.is("kind 10", x.ticket(0, 10, 5, 1, 0, 0), NONE);
        Due.is("gross -1", x.ticket(0, 0, -1, 0, 0, 0), NONE);
        Due.is("gross -1 of a tare of -1", x.ticket(0, 0, -1, -1, 0, 0), NONE);
        Due.is("gross above", x.ticket(0, 0, TON + 1, 1, 0, 0), NONE);
        Due.is("tare -2", x.ticket(0, 0, 5, -2, 0, 0), NONE);
        Due.is("tare above", x.ticket(0, 0, 5, TON + 1, 0, 0), NONE);
        Due.is("tare far above", x.ticket(0, 0, 5, Long.MAX_VALUE, 0, 0), NONE);
        Due.is("second -1", x.ticket(0, 0, 5, 1, -1, 0), NONE);
        Due.is("second above", x.ticket(0, 0, 5, 1, LAST_SECOND + 1, 0), NONE);
        Due.is("second far above", x.ticket(0, 0, 5, -1, Long.MAX_VALUE, 0), NONE);
        Due.is("second far below", x.ticket(0, 0, 5, -1, Long.MIN_VALUE, 0), NONE);
        Due.is("person -1", x.ticket(0, 0, 5, 1, 0, -1), NONE);
        Due.is("person 1000", x.ticket(0, 0, 5, 1, 0, 1000), NONE);
        Due.is("no such person and a gross below the tare", x.ticket(0, 0, 5, 6, 0, 1000), NONE);
        Due.is("nothing was made", x.made() + x.rows(), 0);
        Due.is("no ticket", x.number(0), NONE);
        Due.is("no gap", x.gap(0), NONE);
    }

    private static void promise3Tares() {
        TicketChain x = new TicketChain();
        x.follows(1, 7, 30);
        Due.is("the last second without a tare", x.ticket(7, 0, 100, -1, 86399, 0), NONE);
        Due.is("the first second with one", x.ticket(7, 0, 100, -1, 86400, 0), 0);
        Due.is("the vehicle's tare", x.at(0, 4), 30);
        Due.is("another tare than the vehicle's", x.ticket(7, 0, 100, 20, 86400, 0), 1);
        Due.is("the tare that was told", x.at(1, 4), 20);
        Due.is("another vehicle", x.ticket(8, 0, 100, -1, 86400, 0), NONE);
        Due.is("numbers used", x.made(), 2);
    }

    private static void promise3Spoiled() {
        TicketChain x = new TicketChain();
        x.follows(0, 0, 50);
        Due.is("gross below the tare", x.ticket(0, 0, 9, 10, 0, 0), SPOILED);
        Due.is("gross below the vehicle's tare", x.ticket(0, 0, 49, -1, 0, 0), SPOILED);
        Due.is("no rows", x.rows(), 0);
        Due.is("no ticket", x.number(0), NONE);
        Due.is("two numbers", x.made(), 2);
        Due.is("gross just the tare", x.ticket(0, 0, 50, -1, 0, 0), 0);
        Due.is("its number", x.number(0), 2);
        Due.is("its net", x.at(0, 5), 0);
    }

    private static void promise3Rows200() {
        TicketChain x = new TicketChain();
        for (int k = 0; k < 198; k++) {
            Due.is("ticket " + k, x.ticket(k % 100, k % 10, k + 1, 1, k, k), k);
        }
        Due.is("row 198", x.correct(0, 2, 5, 1), 198);
        Due.is("row 199", x.voids(1, 1), 199);
        Due.is("200 rows, a ticket", x.ticket(0, 0, 5, 1, 0, 0), NONE);
        Due.is("200 rows, a spoiled one", x.ticket(0, 0, 5, 6, 0, 0), NONE);
        Due.is("200 rows, a correction", x.correct(0, 2, 6, 1), NONE);
        Due.is("200 rows, the field stays", x.at(0, 2), 5);
        Due.is("200 rows, a void", x.voids(0, 1), NONE);
        Due.is("200 rows, the ticket stays", x.at(0, 8), 0);
        Due.is("rows()", x.rows(), 200);
        Due.is("made()", x.made(), 198);
        Due.is("check(0)", x.check(0), 0);
        Due.is("check(200)", x.check(200), 0);
        Due.is("check(201)", x.check(201), NONE);
        Due.is("a load can be split still", x.split(197, 7, 1), true);
        Due.is("share", x.share(197, 7), 197);
    }

    private static void promise3Numbers400() {
        TicketChain x = new TicketChain();
        for (int k = 0; k < 399; k++) {
            Due.is("a spoiled one", x.ticket(0, 0, 0, 1, 0, 0), SPOILED);
        }
        Due.is("the last number", x.ticket(0, 0, 1, 1, 0, 0), 0);
        Due.is("400 numbers, a ticket", x.ticket(0, 0, 1, 1, 0, 0), NONE);
        Due.is("400 numbers, a spoiled one", x.ticket(0, 0, 0, 1, 0, 0), NONE);
        Due.is("made()", x.made(), 400);
        Due.is("rows()", x.rows(), 1);
        Due.is("number(0)", x.number(0), 399);
        Due.is("gap(398)", x.gap(398), 398);
        Due.is("gap(399)", x.gap(399), NONE);
        Due.is("a correction takes no number", x.correct(0, 2, 1, 0), 1);
        Due.is("a void takes no number", x.voids(0, 1), 2);
        TicketChain y = new TicketChain();
        for (int k = 0; k < 400; k++) {
            Due.is("a spoiled one", y.ticket(0, 0, 0, 1, 0, 0), SPOILED);
        }
        Due.is("400 gaps", y.gap(399), 399);
        Due.is("400 gaps, one more", y.gap(400), NONE);
        Due.is("400 numbers, one more", y.ticket(0, 0, 0, 1, 0, 0), NONE);
    }

    private static void promise6At() {
        TicketChain x = new TicketChain();
        x.ticket(0, 0, 0, 1, 0, 0);
        x.ticket(12, 3, 4000, 1500, LAST_SECOND, 678);
        long[] due = {1, 12, 3, 4000, 1500, 2500, LAST_SECOND, 678, 0};
        for (int field = 0; field < due.length; field++) {
            Due.is("at(0, " + field + ")", x.at(0, field), due[field]);
        }
        Due.is("at(0, -1)", x.at(0, -1), NONE);
        Due.is("at(0, 9)", x.at(0, 9), NONE);
        Due.is("at(0, MAX)", x.at(0, Integer.MAX_VALUE), NONE);
        Due.is("at(0, MIN)", x.at(0, Integer.MIN_VALUE), NONE);
        Due.is("at(-1, 0)", x.at(-1, 0), NONE);
        Due.is("at(1, 0)", x.at(1, 0), NONE);
        x.voids(0, 99);
        Due.is("at(0, 8) of a void one", x.at(0, 8), 99);
        Due.is("at(0, 5) of a void one", x.at(0, 5), 2500);
    }

    private static void promise7Number() {
        TicketChain x = new TicketChain();
        x.ticket(0, 0, 1, 1, 0, 0);
        x.ticket(0, 0, 0, 1, 0, 0);
        x.ticket(0, 0, 1, 1, 0, 0);
        Due.is("number(0)", x.number(0), 0);
        Due.is("number(1)", x.number(1), 2);
        Due.is("number(2)", x.number(2), NONE);
        Due.is("number(-1)", x.number(-1), NONE);
        Due.is("number(MAX)", x.number(Integer.MAX_VALUE), NONE);
        Due.is("number(MIN)", x.number(Integer.MIN_VALUE), NONE);
        x.voids(1, 5);
        Due.is("number of a void one", x.number(1), 2);
    }

    private static void promise8Gap() {
        TicketChain x = new TicketChain();
        x.ticket(0, 0, 1, 1, 0, 0);
        x.ticket(0, 0, 0, 1, 0, 0);
        x.ticket(0, 0, 1, 1, 0, 0);
        x.ticket(0, 0, 0, 1, 0, 0);
        x.ticket(0, 0, 0, 1, 0, 0);
        Due.is("gap(0)", x.gap(0), 1);
        Due.is("gap(1)", x.gap(1), 3);
        Due.is("gap(2)", x.gap(2), 4);
        Due.is("gap(3)", x.gap(3), NONE);
        Due.is("gap(-1)", x.gap(-1), NONE);
        Due.is("gap(MAX)", x.gap(Integer.MAX_VALUE), NONE);
        Due.is("gap(MIN)", x.gap(Integer.MIN_VALUE), NONE);
    }

    private static void promises9And10Counts() {
        TicketChain x = new TicketChain();
        x.ticket(0, 0, 10, 1, 0, 0);
        x.ticket(0, 0, 0, 1, 0, 0);
        x.correct(0, 3, 11, 0);
        x.voids(0, 1);
        x.voids(0, 1);
        x.split(0, 0, 1);
        x.poke(0, 0, 1);
        Due.is("rows()", x.rows(), 3);
        Due.is("made()", x.made(), 2);
    }
}
