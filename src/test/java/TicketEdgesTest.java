/** Promises 1 to 3, sentence by sentence: each boundary case that one names has its own method here. */
public final class TicketEdgesTest {
    private static final int NONE = TicketChain.NONE;
    private static final int SPOILED = TicketChain.SPOILED;
    private static final long DAY = 86400L;
    private static final long TON = 1000000000L;
    private static final long LAST_SECOND = 8000000000L;
    // As an int these are -1 and 0, as longs they are far from both.
    private static final long LOOKS_LIKE_MINUS_1 = (1L << 32) - 1;
    private static final long LOOKS_LIKE_0 = 1L << 32;

    public static void main(String[] args) {
        noRows();
        noNumbers();
        nothingKnown();
        objectsApart();

        tareFromADay();
        tareUpToTheNextDay();
        tareOfTheFirstAndLastDay();
        tareToldAgain();
        noSuchVehicle();
        noSuchDay();
        noSuchTare();
        ticketsStay();
        asManyTaresAsCalls();

        tareOfMinusOne();
        whichTicket();
        vehicleNotSuch();
        kindNotSuch();
        grossNotSuch();
        tareNotSuch();
        secondNotSuch();
        personNotSuch();
        noTareKnown();
        rows200();
        numbers400();
        numbers400AllSpoiled();
        spoiledOneBelow();
        spoiledUsesANumber();
        noneBeforeSpoiled();
        Due.end();
    }

    private static void noRows() {
        Due.of("1: No rows");
        TicketChain x = new TicketChain();
        Due.is("rows()", x.rows(), 0);
        Due.is("check(0)", x.check(0), 0);
        Due.is("check(1)", x.check(1), NONE);
        Due.noByte(x, 0, 0);
        Due.is("digest(0, 0)", x.digest(0, 0), NONE);
        Due.is("root(0, 0)", x.root(0, 0), NONE);
        Due.is("poke(0, 0, 1)", x.poke(0, 0, 1), false);
    }

    private static void noNumbers() {
        Due.of("1: no numbers used");
        TicketChain x = new TicketChain();
        Due.is("made()", x.made(), 0);
        Due.is("gap(0)", x.gap(0), NONE);
        Due.is("number(0)", x.number(0), NONE);
        Due.is("at(0, 0)", x.at(0, 0), NONE);
        Due.is("split(0, 0, 0)", x.split(0, 0, 0), false);
        Due.is("share(0, 0)", x.share(0, 0), NONE);
        Due.is("print(0, 0)", x.print(0, 0), NONE);
        Due.is("correct(0, 1, 0, 0)", x.correct(0, 1, 0, 0), NONE);
        Due.is("voids(0, 1)", x.voids(0, 1), NONE);
        x.ticket(0, 0, 0, 0, 0, 0);
        Due.is("the first number", x.number(0), 0);
    }

    private static void nothingKnown() {
        Due.of("1: nothing is known of vehicles");
        TicketChain x = new TicketChain();
        for (int vehicle = 0; vehicle < 100; vehicle++) {
            Due.is("vehicle " + vehicle + ", day 0", x.ticket(vehicle, 0, TON, -1, 0, 0), NONE);
            Due.is("vehicle " + vehicle + ", the last day", x.ticket(vehicle, 0, TON, -1, LAST_SECOND, 0), NONE);
        }
    }

    private static void objectsApart() {
        Due.of("1: A new object, beside a used one");
        TicketChain used = new TicketChain();
        used.follows(0, 0, 1);
        used.ticket(0, 0, 9, -1, 0, 0);
        used.ticket(0, 0, 0, -1, 0, 0);
        used.split(0, 0, 1);
        TicketChain x = new TicketChain();
        Due.is("rows()", x.rows(), 0);
        Due.is("made()", x.made(), 0);
        Due.is("gap(0)", x.gap(0), NONE);
        Due.is("a tare", x.ticket(0, 0, 9, -1, 0, 0), NONE);
        Due.is("ticket", x.ticket(0, 0, 9, 2, 0, 0), 0);
        Due.is("weights", x.share(0, 0), NONE);
        Due.is("the used one's rows()", used.rows(), 1);
    }

    /** The tare of a ticket of the second, of which none was told; NONE when none is known. */
    private static long tareAt(TicketChain x, int vehicle, long second) {
        int ticket = x.ticket(vehicle, 0, TON, -1, second, 0);
        return ticket < 0 ? ticket : x.at(ticket, 4);
    }

    private static void tareFromADay() {
        Due.of("2: A vehicle's tare is another one from a day on");
        TicketChain x = new TicketChain();
        Due.is("follows", x.follows(10, 5, 77), true);
        Due.is("the last second before", tareAt(x, 5, 10 * DAY - 1), NONE);
        Due.is("the first second", tareAt(x, 5, 10 * DAY), 77);
        Due.is("the last second of the day", tareAt(x, 5, 11 * DAY - 1), 77);
        Due.is("the last of all seconds", tareAt(x, 5, LAST_SECOND), 77);
        Due.is("the vehicle before", tareAt(x, 4, 10 * DAY), NONE);
        Due.is("the vehicle behind", tareAt(x, 6, 10 * DAY), NONE);
    }

    private static void tareUpToTheNextDay() {
        Due.of("2: up to the next day from which another one was told");
        TicketChain x = new TicketChain();
        x.follows(10, 5, 77);
        x.follows(12, 5, 88);
        Due.is("the last second before the next", tareAt(x, 5, 12 * DAY - 1), 77);
        Due.is("the first second of the next", tareAt(x, 5, 12 * DAY), 88);
        x.follows(8, 5, 66);
        Due.is("an earlier one, told last", tareAt(x, 5, 10 * DAY - 1), 66);
        Due.is("an earlier one ends", tareAt(x, 5, 10 * DAY), 77);
        x.follows(11, 5, 99);
        Due.is("the day before one between", tareAt(x, 5, 11 * DAY - 1), 77);
        Due.is("the day of one between", tareAt(x, 5, 11 * DAY), 99);
        Due.is("the day behind one between", tareAt(x, 5, 12 * DAY), 88);
        x.follows(11, 6, 55);
        Due.is("another vehicle's does not end it", tareAt(x, 5, 12 * DAY - 1), 99);
    }

    private static void tareOfTheFirstAndLastDay() {
        Due.of("2: (0 .. 100000)");
        TicketChain x = new TicketChain();
        Due.is("day 0", x.follows(0, 0, 1), true);
        Due.is("day 0 is known", tareAt(x, 0, 0), 1);
        Due.is("the last day of a second", x.follows(92592, 0, 2), true);
        Due.is("the day before it", tareAt(x, 0, 92592 * DAY - 1), 1);
        Due.is("on it", tareAt(x, 0, 92592 * DAY), 2);
        Due.is("the day behind it", x.follows(92593, 0, 3), true);
        Due.is("the last day", x.follows(100000, 0, 4), true);
        Due.is("as before", tareAt(x, 0, LAST_SECOND), 2);
    }

    private static void tareToldAgain() {
        Due.of("2: told again for the same day it is the new one");
        TicketChain x = new TicketChain();
        x.follows(3, 5, 77);
        x.follows(5, 5, 99);
        Due.is("told again, heavier", x.follows(3, 5, 78), true);
        Due.is("the new one", tareAt(x, 5, 3 * DAY), 78);
        Due.is("told again, lighter", x.follows(3, 5, 0), true);
        Due.is("the new one, being 0", tareAt(x, 5, 3 * DAY), 0);
        Due.is("told again, the same", x.follows(3, 5, 0), true);
        Due.is("the same", tareAt(x, 5, 5 * DAY - 1), 0);
        Due.is("the next day's stays", tareAt(x, 5, 5 * DAY), 99);
        Due.is("told again for the later day", x.follows(5, 5, 98), true);
        Due.is("the later day's new one", tareAt(x, 5, 5 * DAY), 98);
        Due.is("the earlier day's stays", tareAt(x, 5, 5 * DAY - 1), 0);
        Due.is("no day before", tareAt(x, 5, 3 * DAY - 1), NONE);
    }

    private static void noSuchVehicle() {
        Due.of("2: false when there is no such vehicle");
        TicketChain x = new TicketChain();
        for (int vehicle : new int[] {-1, 100, 101, Integer.MAX_VALUE, Integer.MIN_VALUE}) {
            Due.is("vehicle " + vehicle, x.follows(0, vehicle, 1), false);
        }
        Due.is("vehicle 0", x.follows(0, 0, 1), true);
        Due.is("vehicle 99", x.follows(0, 99, 1), true);
    }

    private static void noSuchDay() {
        Due.of("2: false when there is no such .. day");
        TicketChain x = new TicketChain();
        for (int day : new int[] {-1, 100001, Integer.MAX_VALUE, Integer.MIN_VALUE}) {
            Due.is("day " + day, x.follows(day, 0, 1), false);
        }
        Due.is("none of them is known", tareAt(x, 0, LAST_SECOND), NONE);
        Due.is("day 0", x.follows(0, 0, 1), true);
        Due.is("day 100000", x.follows(100000, 0, 1), true);
    }

    private static void noSuchTare() {
        Due.of("2: false when there is no such .. tare (0 .. 1000000000)");
        TicketChain x = new TicketChain();
        long[] nones = {-1, TON + 1, LOOKS_LIKE_0, LOOKS_LIKE_MINUS_1, -LOOKS_LIKE_0, Long.MAX_VALUE, Long.MIN_VALUE};
        for (long tare : nones) {
            Due.is("tare " + tare, x.follows(0, 0, tare), false);
        }
        Due.is("none of them is known", tareAt(x, 0, 0), NONE);
        Due.is("tare 1000000000", x.follows(0, 0, TON), true);
        Due.is("the greatest", tareAt(x, 0, 0), TON);
        Due.is("tare 0", x.follows(0, 0, 0), true);
        Due.is("the least", tareAt(x, 0, 0), 0);
    }

    private static void ticketsStay() {
        Due.of("2: (Tickets that there are stay as they are.)");
        TicketChain x = new TicketChain();
        x.follows(0, 0, 10);
        x.ticket(0, 0, 15, -1, 0, 0);
        x.ticket(0, 0, 15, 3, 0, 0);
        x.follows(0, 0, 20);
        Due.is("its tare", x.at(0, 4), 10);
        Due.is("its net, which the new tare would make less than 0", x.at(0, 5), 5);
        Due.is("the tare of one that was told it", x.at(1, 4), 3);
        Due.is("rows()", x.rows(), 2);
        Due.is("made()", x.made(), 2);
        Due.is("check(0)", x.check(0), 0);
        Due.is("gap(0)", x.gap(0), NONE);
    }

    private static void asManyTaresAsCalls() {
        Due.of("2: Answers true, of as many tares as there are calls");
        TicketChain x = new TicketChain();
        for (int k = 0; k < 508; k++) {
            Due.is("tare " + k, x.follows(k % 6, k / 6, k), true);
        }
        Due.is("the first", tareAt(x, 0, 0), 0);
        Due.is("the last", tareAt(x, 84, 3 * DAY), 507);
    }

    private static void tareOfMinusOne() {
        Due.of("3: of a tare of -1 it is the vehicle's on the second's day");
        TicketChain x = new TicketChain();
        x.follows(2, 1, 30);
        x.follows(3, 1, 40);
        x.follows(2, 2, 50);
        Due.is("tare -1", x.ticket(1, 0, 100, -1, 3 * DAY - 1, 0), 0);
        Due.is("the day's", x.at(0, 4), 30);
        Due.is("net", x.at(0, 5), 70);
        Due.is("in its row", x.byteAt(0, 28), 30);
        Due.is("tare -1 a second later", x.ticket(1, 0, 100, -1, 3 * DAY, 0), 1);
        Due.is("the next day's", x.at(1, 4), 40);
        Due.is("tare 0 is told, not the vehicle's", x.ticket(1, 0, 100, 0, 3 * DAY, 0), 2);
        Due.is("tare 0", x.at(2, 4), 0);
        Due.is("tare -1 of another vehicle", x.ticket(2, 0, 100, -1, 3 * DAY, 0), 3);
        Due.is("its tare", x.at(3, 4), 50);
        Due.is("2^32 - 1 is no -1", x.ticket(1, 0, 100, LOOKS_LIKE_MINUS_1, 3 * DAY, 0), NONE);
        x.follows(4, 1, 0);
        Due.is("a vehicle's tare of 0", x.ticket(1, 0, 0, -1, 4 * DAY, 0), 4);
        Due.is("is known", x.at(4, 4), 0);
    }

    private static void whichTicket() {
        Due.of("3: A ticket is made, with a row .. Answers which ticket it is");
        TicketChain x = new TicketChain();
        Due.is("the least of all fields", x.ticket(0, 0, 0, 0, 0, 0), 0);
        Due.is("the greatest of all fields", x.ticket(99, 9, TON, TON, LAST_SECOND, 999), 1);
        x.ticket(0, 0, 0, 1, 0, 0);
        x.voids(0, 1);
        Due.is("behind a spoiled number and a void", x.ticket(0, 0, TON, 0, LAST_SECOND, 0), 2);
        Due.is("rows()", x.rows(), 4);
        Due.is("its row", x.byteAt(3, 0), 1);
        Due.is("its number", x.number(2), 3);
    }

    private static void vehicleNotSuch() {
        Due.of("3: NONE when a field is not such: the vehicle (0 .. 99)");
        TicketChain x = new TicketChain();
        for (int vehicle : new int[] {-1, 100, 256, Integer.MAX_VALUE, Integer.MIN_VALUE}) {
            Due.is("vehicle " + vehicle, x.ticket(vehicle, 0, 5, 1, 0, 0), NONE);
            Due.is("vehicle " + vehicle + ", tare -1", x.ticket(vehicle, 0, 5, -1, 0, 0), NONE);
        }
        Due.is("vehicle 0", x.ticket(0, 0, 5, 1, 0, 0), 0);
        Due.is("vehicle 99", x.ticket(99, 0, 5, 1, 0, 0), 1);
        Due.is("made()", x.made(), 2);
    }

    private static void kindNotSuch() {
        Due.of("3: NONE when a field is not such: the kind (0 .. 9)");
        TicketChain x = new TicketChain();
        for (int kind : new int[] {-1, 10, 256, Integer.MAX_VALUE, Integer.MIN_VALUE}) {
            Due.is("kind " + kind, x.ticket(0, kind, 5, 1, 0, 0), NONE);
        }
        Due.is("kind 0", x.ticket(0, 0, 5, 1, 0, 0), 0);
        Due.is("kind 9", x.ticket(0, 9, 5, 1, 0, 0), 1);
        Due.is("made()", x.made(), 2);
    }

    private static void grossNotSuch() {
        Due.of("3: NONE when a field is not such: the gross (0 .. 1000000000)");
        TicketChain x = new TicketChain();
        x.follows(0, 0, 0);
        for (long gross : new long[] {-1, TON + 1, LOOKS_LIKE_0, LOOKS_LIKE_MINUS_1, Long.MAX_VALUE, Long.MIN_VALUE}) {
            Due.is("gross " + gross, x.ticket(0, 0, gross, 0, 0, 0), NONE);
            Due.is("gross " + gross + ", tare -1", x.ticket(0, 0, gross, -1, 0, 0), NONE);
        }
        Due.is("gross 0", x.ticket(0, 0, 0, 0, 0, 0), 0);
        Due.is("gross 1000000000", x.ticket(0, 0, TON, 0, 0, 0), 1);
        Due.is("made()", x.made(), 2);
    }

    private static void tareNotSuch() {
        Due.of("3: NONE when a field is not such: the tare (0 .. 1000000000)");
        TicketChain x = new TicketChain();
        x.follows(0, 0, 0);
        long[] nones = {-2, TON + 1, LOOKS_LIKE_0, LOOKS_LIKE_MINUS_1, LOOKS_LIKE_0 - 2, Long.MAX_VALUE,
            Long.MIN_VALUE};
        for (long tare : nones) {
            Due.is("tare " + tare, x.ticket(0, 0, TON, tare, 0, 0), NONE);
            Due.is("tare " + tare + ", gross 0", x.ticket(0, 0, 0, tare, 0, 0), NONE);
        }
        Due.is("tare 0", x.ticket(0, 0, TON, 0, 0, 0), 0);
        Due.is("tare 1000000000", x.ticket(0, 0, TON, TON, 0, 0), 1);
        Due.is("made()", x.made(), 2);
    }

    private static void secondNotSuch() {
        Due.of("3: NONE when a field is not such: the second (0 .. 8000000000)");
        TicketChain x = new TicketChain();
        x.follows(0, 0, 0);
        for (long second : new long[] {-1, -DAY, LAST_SECOND + 1, 1L << 40, Long.MAX_VALUE, Long.MIN_VALUE}) {
            Due.is("second " + second, x.ticket(0, 0, 5, 1, second, 0), NONE);
            Due.is("second " + second + ", tare -1", x.ticket(0, 0, 5, -1, second, 0), NONE);
        }
        Due.is("second 0", x.ticket(0, 0, 5, 1, 0, 0), 0);
        Due.is("second 8000000000", x.ticket(0, 0, 5, 1, LAST_SECOND, 0), 1);
        Due.is("which is kept whole", x.at(1, 6), LAST_SECOND);
        Due.is("made()", x.made(), 2);
    }

    private static void personNotSuch() {
        Due.of("3: NONE when a field is not such: the person (0 .. 999)");
        TicketChain x = new TicketChain();
        for (int person : new int[] {-1, 1000, 1024, Integer.MAX_VALUE, Integer.MIN_VALUE}) {
            Due.is("person " + person, x.ticket(0, 0, 5, 1, 0, person), NONE);
        }
        Due.is("person 0", x.ticket(0, 0, 5, 1, 0, 0), 0);
        Due.is("person 999", x.ticket(0, 0, 5, 1, 0, 999), 1);
        Due.is("made()", x.made(), 2);
    }

    private static void noTareKnown() {
        Due.of("3: NONE when .. no tare is known (for -1)");
        TicketChain x = new TicketChain();
        Due.is("of no vehicle", x.ticket(0, 0, TON, -1, LAST_SECOND, 0), NONE);
        x.follows(1, 0, 4);
        Due.is("not of that day", x.ticket(0, 0, TON, -1, DAY - 1, 0), NONE);
        Due.is("not of that vehicle", x.ticket(1, 0, TON, -1, DAY, 0), NONE);
        Due.is("nor a spoiled number, of a gross of 0", x.ticket(1, 0, 0, -1, DAY, 0), NONE);
        Due.is("made()", x.made(), 0);
        Due.is("known", x.ticket(0, 0, TON, -1, DAY, 0), 0);
        Due.is("not needed", x.ticket(1, 0, TON, 0, DAY, 0), 1);
    }

    private static void rows200() {
        Due.of("3: NONE when .. there are 200 rows");
        TicketChain x = new TicketChain();
        for (int k = 0; k < 199; k++) {
            Due.is("ticket " + k, x.ticket(0, 0, 5, 1, 0, 0), k);
        }
        Due.is("spoiled at 199 rows", x.ticket(0, 0, 0, 1, 0, 0), SPOILED);
        Due.is("the last one", x.ticket(0, 0, 5, 1, 0, 0), 199);
        Due.is("rows()", x.rows(), 200);
        Due.is("made()", x.made(), 201);
        Due.is("one more", x.ticket(0, 0, 5, 1, 0, 0), NONE);
        Due.is("rows()", x.rows(), 200);
        Due.is("made()", x.made(), 201);
        Due.is("number(199)", x.number(199), 200);
        Due.is("number(200)", x.number(200), NONE);
        Due.is("check(0)", x.check(0), 0);
        TicketChain y = new TicketChain();
        y.ticket(0, 0, 5, 1, 0, 0);
        for (int row = 1; row < 200; row++) {
            Due.is("row " + row, y.correct(0, 2, row % 10, 0), row);
        }
        Due.is("one ticket, 200 rows, one more", y.ticket(0, 0, 5, 1, 0, 0), NONE);
        Due.is("number(1)", y.number(1), NONE);
        Due.is("made()", y.made(), 1);
    }

    private static void numbers400() {
        Due.of("3: NONE when .. 400 numbers were used");
        TicketChain x = new TicketChain();
        for (int k = 0; k < 100; k++) {
            Due.is("ticket " + k, x.ticket(0, 0, 5, 1, 0, 0), k);
        }
        for (int k = 100; k < 399; k++) {
            Due.is("number " + k, x.ticket(0, 0, 0, 1, 0, 0), SPOILED);
        }
        Due.is("the last one", x.ticket(0, 0, 5, 1, 0, 0), 100);
        Due.is("its number", x.number(100), 399);
        Due.is("made()", x.made(), 400);
        Due.is("one more", x.ticket(0, 0, 5, 1, 0, 0), NONE);
        Due.is("one more, of a gross below the tare", x.ticket(0, 0, 0, 1, 0, 0), NONE);
        Due.is("made()", x.made(), 400);
        Due.is("rows()", x.rows(), 101);
        Due.is("number(101)", x.number(101), NONE);
        Due.is("gap(298)", x.gap(298), 398);
        Due.is("gap(299)", x.gap(299), NONE);
        Due.is("a correction needs no number", x.correct(100, 1, 1, 0), 101);
        Due.is("a void needs no number", x.voids(100, 1), 102);
    }

    private static void numbers400AllSpoiled() {
        Due.of("3: SPOILED, up to 400 numbers");
        TicketChain x = new TicketChain();
        for (int k = 0; k < 400; k++) {
            Due.is("number " + k, x.ticket(0, 0, 0, 1, 0, 0), SPOILED);
        }
        Due.is("one more", x.ticket(0, 0, 0, 1, 0, 0), NONE);
        Due.is("one more that is no spoiled one", x.ticket(0, 0, 5, 1, 0, 0), NONE);
        Due.is("made()", x.made(), 400);
        Due.is("rows()", x.rows(), 0);
        Due.is("gap(399)", x.gap(399), 399);
        Due.is("gap(400)", x.gap(400), NONE);
        Due.is("check(0)", x.check(0), 0);
    }

    private static void spoiledOneBelow() {
        Due.of("3: SPOILED otherwise, when the gross is less than the tare");
        TicketChain x = new TicketChain();
        x.follows(0, 0, 50);
        x.follows(1, 0, TON);
        Due.is("gross 49, tare 50", x.ticket(0, 0, 49, 50, 0, 0), SPOILED);
        Due.is("gross 50, tare 50", x.ticket(0, 0, 50, 50, 0, 0), 0);
        Due.is("gross 51, tare 50", x.ticket(0, 0, 51, 50, 0, 0), 1);
        Due.is("gross 49, the vehicle's tare 50", x.ticket(0, 0, 49, -1, 0, 0), SPOILED);
        Due.is("gross 50, the vehicle's tare 50", x.ticket(0, 0, 50, -1, 0, 0), 2);
        Due.is("gross 0, tare 1000000000", x.ticket(0, 0, 0, TON, 0, 0), SPOILED);
        Due.is("gross 0, the vehicle's tare 1000000000", x.ticket(0, 0, 0, -1, DAY, 0), SPOILED);
        Due.is("gross 999999999, tare 1000000000", x.ticket(0, 0, TON - 1, TON, 0, 0), SPOILED);
        Due.is("gross 0, tare 0", x.ticket(0, 0, 0, 0, 0, 0), 3);
    }

    private static void spoiledUsesANumber() {
        Due.of("3: a number is used then, but there is no ticket and no row");
        TicketChain x = new TicketChain();
        Due.is("spoiled", x.ticket(9, 9, 1, 2, 5, 9), SPOILED);
        Due.is("made()", x.made(), 1);
        Due.is("gap(0)", x.gap(0), 0);
        Due.is("rows()", x.rows(), 0);
        Due.noByte(x, 0, 0);
        Due.is("root(0, 0)", x.root(0, 0), NONE);
        Due.is("number(0)", x.number(0), NONE);
        Due.is("at(0, 0)", x.at(0, 0), NONE);
        Due.is("at(0, 1)", x.at(0, 1), NONE);
        Due.is("split(0, 0, 1)", x.split(0, 0, 1), false);
        Due.is("print(0, 0)", x.print(0, 0), NONE);
        Due.is("voids(0, 1)", x.voids(0, 1), NONE);
        Due.is("the next one", x.ticket(9, 9, 2, 2, 5, 9), 0);
        Due.is("its number", x.number(0), 1);
        Due.is("its row", x.rows(), 1);
        Due.is("the number in its row", x.byteAt(0, 4), 1);
    }

    private static void noneBeforeSpoiled() {
        Due.of("3: SPOILED otherwise: NONE goes before");
        TicketChain x = new TicketChain();
        Due.is("vehicle 100", x.ticket(100, 0, 0, 1, 0, 0), NONE);
        Due.is("kind 10", x.ticket(0, 10, 0, 1, 0, 0), NONE);
        Due.is("gross -1", x.ticket(0, 0, -1, 1, 0, 0), NONE);
        Due.is("tare 1000000001", x.ticket(0, 0, 0, TON + 1, 0, 0), NONE);
        Due.is("second 8000000001", x.ticket(0, 0, 0, 1, LAST_SECOND + 1, 0), NONE);
        Due.is("person 1000", x.ticket(0, 0, 0, 1, 0, 1000), NONE);
        Due.is("made()", x.made(), 0);
        for (int k = 0; k < 200; k++) {
            x.ticket(0, 0, 5, 1, 0, 0);
        }
        Due.is("200 rows", x.ticket(0, 0, 0, 1, 0, 0), NONE);
        Due.is("made()", x.made(), 200);
        Due.is("gap(0)", x.gap(0), NONE);
    }
}
