import java.util.ArrayList;
import java.util.List;

/** "A call that is refused, or throws, changes nothing": each is made on one of two objects that are alike. */
public final class RefusedTest {
    private static final int NONE = TicketChain.NONE;
    private static final long DAY = 86400L;
    private static final long TON = 1000000000L;
    private static final long LAST_SECOND = 8000000000L;

    private interface Call {
        long on(TicketChain x);
    }

    private interface Questions {
        List<Long> of(TicketChain x);
    }

    public static void main(String[] args) {
        refusedFollows();
        refusedTicket();
        refusedCorrect();
        refusedVoids();
        refusedSplit();
        refusedPoke();
        thrownByteAt();
        refusedQuestions();
        askedQuestions();
        refusedAt200Rows();
        refusedAt400Numbers();
        Due.end();
    }

    /** Ticket 0 is corrected and shared, ticket 1 is void, number 1 is spoiled, row 1 is poked. */
    private static TicketChain some() {
        TicketChain x = new TicketChain();
        x.follows(2, 1, 40);
        x.follows(4, 1, 50);
        x.ticket(1, 2, 300, -1, 2 * DAY, 5);
        x.ticket(1, 2, 10, 20, 2 * DAY, 5);
        x.ticket(3, 4, 500, 100, 3 * DAY - 1, 6);
        x.correct(0, 3, 301, 9);
        x.voids(1, 12);
        x.split(0, 0, 1);
        x.split(0, 6, 2);
        x.split(1, 3, 3);
        x.poke(1, 50, 3);
        return x;
    }

    /** All that can be asked of some(), in some 450 calls; the last of them make what hidden things show in. */
    private static List<Long> askSome(TicketChain x) {
        List<Long> answers = new ArrayList<>();
        answers.add((long) x.rows());
        answers.add((long) x.made());
        for (int k = 0; k < 3; k++) {
            answers.add((long) x.gap(k));
        }
        for (int ticket = 0; ticket < 3; ticket++) {
            for (int field = 0; field <= 8; field++) {
                answers.add(x.at(ticket, field));
            }
        }
        for (int i = 0; i < 30; i++) {
            answers.add((long) x.print(0, i));
            answers.add((long) x.print(1, i));
        }
        addShares(answers, x, 0);
        for (int row = 0; row < 4; row++) {
            for (int i = 0; i < 73; i++) {
                answers.add((long) x.byteAt(row, i));
            }
        }
        for (int from = 0; from <= 4; from++) {
            answers.add((long) x.check(from));
        }
        answers.add((long) x.root(2, 0));
        answers.add((long) x.root(2, 31));
        addShares(answers, x, 1);
        for (int day = 0; day < 6; day++) {
            int ticket = x.ticket(1, 0, TON, -1, day * DAY, 0);
            answers.add((long) ticket);
            answers.add(x.at(ticket, 4));
            answers.add((long) x.number(ticket));
        }
        answers.add((long) x.ticket(0, 0, TON, -1, LAST_SECOND, 0));
        answers.add((long) x.ticket(99, 0, TON, -1, LAST_SECOND, 0));
        return answers;
    }

    private static void addShares(List<Long> answers, TicketChain x, int ticket) {
        for (int customer = 0; customer <= 7; customer++) {
            answers.add(x.share(ticket, customer));
        }
    }

    private static void changesNothing(String what, Call call, long due) {
        same(what, call, due, some(), some(), RefusedTest::askSome);
    }

    private static void same(String what, Call call, long due, TicketChain x, TicketChain twin, Questions ask) {
        Due.is(what, call.on(x), due);
        Due.is(what + " changes nothing", ask.of(x).toString(), ask.of(twin).toString());
    }

    private static void refusedFollows() {
        Due.of("2: a refused follows changes nothing");
        changesNothing("day -1", x -> x.follows(-1, 1, 7) ? 1 : 0, 0);
        changesNothing("day 100001", x -> x.follows(100001, 1, 7) ? 1 : 0, 0);
        changesNothing("vehicle -1", x -> x.follows(2, -1, 7) ? 1 : 0, 0);
        changesNothing("vehicle 100", x -> x.follows(2, 100, 7) ? 1 : 0, 0);
        changesNothing("tare -1", x -> x.follows(2, 1, -1) ? 1 : 0, 0);
        changesNothing("tare 1000000001", x -> x.follows(2, 1, TON + 1) ? 1 : 0, 0);
        changesNothing("tare -1 of a new day", x -> x.follows(3, 1, -1) ? 1 : 0, 0);
        changesNothing("tare 1000000001 of a new day", x -> x.follows(0, 1, TON + 1) ? 1 : 0, 0);
    }

    private static void refusedTicket() {
        Due.of("3: a refused ticket changes nothing");
        changesNothing("vehicle -1", x -> x.ticket(-1, 0, 5, 1, 0, 0), NONE);
        changesNothing("vehicle 100", x -> x.ticket(100, 0, 5, 1, 0, 0), NONE);
        changesNothing("kind -1", x -> x.ticket(0, -1, 5, 1, 0, 0), NONE);
        changesNothing("kind 10", x -> x.ticket(0, 10, 5, 1, 0, 0), NONE);
        changesNothing("gross -1", x -> x.ticket(0, 0, -1, 1, 0, 0), NONE);
        changesNothing("gross 1000000001", x -> x.ticket(0, 0, TON + 1, 1, 0, 0), NONE);
        changesNothing("tare -2", x -> x.ticket(0, 0, 5, -2, 0, 0), NONE);
        changesNothing("tare 1000000001", x -> x.ticket(0, 0, 5, TON + 1, 0, 0), NONE);
        changesNothing("second -1", x -> x.ticket(0, 0, 5, 1, -1, 0), NONE);
        changesNothing("second 8000000001", x -> x.ticket(0, 0, 5, 1, LAST_SECOND + 1, 0), NONE);
        changesNothing("person -1", x -> x.ticket(0, 0, 5, 1, 0, -1), NONE);
        changesNothing("person 1000", x -> x.ticket(0, 0, 5, 1, 0, 1000), NONE);
        changesNothing("no tare known", x -> x.ticket(1, 0, 5, -1, 2 * DAY - 1, 0), NONE);
        changesNothing("spoiled, but for the person", x -> x.ticket(0, 0, 5, 6, 0, 1000), NONE);
    }

    private static void refusedCorrect() {
        Due.of("4: a refused correct changes nothing");
        changesNothing("ticket -1", x -> x.correct(-1, 2, 1, 1), NONE);
        changesNothing("ticket 2", x -> x.correct(2, 2, 1, 1), NONE);
        changesNothing("field 0", x -> x.correct(0, 0, 1, 1), NONE);
        changesNothing("field 5", x -> x.correct(0, 5, 1, 1), NONE);
        changesNothing("field 8", x -> x.correct(0, 8, 1, 1), NONE);
        changesNothing("field 9", x -> x.correct(0, 9, 1, 1), NONE);
        changesNothing("person -1", x -> x.correct(0, 2, 1, -1), NONE);
        changesNothing("person 1000", x -> x.correct(0, 2, 1, 1000), NONE);
        long[] greatest = {0, 99, 9, TON, TON, 0, LAST_SECOND, 999};
        for (int field : new int[] {1, 2, 3, 4, 6, 7}) {
            changesNothing("field " + field + ", -1", x -> x.correct(0, field, -1, 1), NONE);
            changesNothing("field " + field + ", above", x -> x.correct(0, field, greatest[field] + 1, 1), NONE);
            changesNothing("a void one's field " + field, x -> x.correct(1, field, greatest[field], 1), NONE);
        }
        changesNothing("gross below the tare", x -> x.correct(0, 3, 39, 1), NONE);
        changesNothing("tare above the gross", x -> x.correct(0, 4, 302, 1), NONE);
    }

    private static void refusedVoids() {
        Due.of("5: a refused voids changes nothing");
        changesNothing("ticket -1", x -> x.voids(-1, 1), NONE);
        changesNothing("ticket 2", x -> x.voids(2, 1), NONE);
        changesNothing("reason 0", x -> x.voids(0, 0), NONE);
        changesNothing("reason -1", x -> x.voids(0, -1), NONE);
        changesNothing("reason 100", x -> x.voids(0, 100), NONE);
        changesNothing("void", x -> x.voids(1, 13), NONE);
    }

    private static void refusedSplit() {
        Due.of("11: a refused split changes nothing");
        changesNothing("ticket -1", x -> x.split(-1, 0, 5) ? 1 : 0, 0);
        changesNothing("ticket 2", x -> x.split(2, 0, 5) ? 1 : 0, 0);
        changesNothing("customer -1", x -> x.split(0, -1, 5) ? 1 : 0, 0);
        changesNothing("customer 8", x -> x.split(0, 8, 5) ? 1 : 0, 0);
        changesNothing("weight -1", x -> x.split(0, 0, -1) ? 1 : 0, 0);
        changesNothing("weight 1000001", x -> x.split(0, 0, 1000001) ? 1 : 0, 0);
    }

    private static void refusedPoke() {
        Due.of("14: a refused poke changes nothing");
        changesNothing("row -1", x -> x.poke(-1, 0, 1) ? 1 : 0, 0);
        changesNothing("row 4", x -> x.poke(4, 0, 1) ? 1 : 0, 0);
        changesNothing("byte -1", x -> x.poke(0, -1, 1) ? 1 : 0, 0);
        changesNothing("byte 73", x -> x.poke(0, 73, 1) ? 1 : 0, 0);
        changesNothing("mask 0", x -> x.poke(0, 0, 0) ? 1 : 0, 0);
        changesNothing("mask 256", x -> x.poke(0, 0, 256) ? 1 : 0, 0);
        changesNothing("mask 257", x -> x.poke(0, 0, 257) ? 1 : 0, 0);
        changesNothing("mask -1", x -> x.poke(0, 0, -1) ? 1 : 0, 0);
    }

    /** 1 when it throws what the document names. */
    private static long thrown(TicketChain x, int row, int i) {
        try {
            x.byteAt(row, i);
        } catch (ArrayIndexOutOfBoundsException e) {
            return 1;
        }
        return 0;
    }

    private static void thrownByteAt() {
        Due.of("15: a byteAt that throws changes nothing");
        changesNothing("row -1", x -> thrown(x, -1, 0), 1);
        changesNothing("row 4", x -> thrown(x, 4, 0), 1);
        changesNothing("byte -1", x -> thrown(x, 0, -1), 1);
        changesNothing("byte 73", x -> thrown(x, 0, 73), 1);
    }

    private static void refusedQuestions() {
        Due.of("6 to 8, 12, 13, 16 to 18: a question that is refused changes nothing");
        changesNothing("at(2, 0)", x -> x.at(2, 0), NONE);
        changesNothing("at(0, 9)", x -> x.at(0, 9), NONE);
        changesNothing("number(2)", x -> x.number(2), NONE);
        changesNothing("gap(1)", x -> x.gap(1), NONE);
        changesNothing("share(2, 0)", x -> x.share(2, 0), NONE);
        changesNothing("share(0, 8)", x -> x.share(0, 8), NONE);
        changesNothing("print(2, 0)", x -> x.print(2, 0), NONE);
        changesNothing("print(0, 99)", x -> x.print(0, 99), NONE);
        changesNothing("digest(4, 0)", x -> x.digest(4, 0), NONE);
        changesNothing("digest(0, 32)", x -> x.digest(0, 32), NONE);
        changesNothing("check(-1)", x -> x.check(-1), NONE);
        changesNothing("check(5)", x -> x.check(5), NONE);
        changesNothing("root(2, 32)", x -> x.root(2, 32), NONE);
        changesNothing("root(9, 0)", x -> x.root(9, 0), NONE);
    }

    private static void askedQuestions() {
        Due.of("6 to 10, 12, 13, 15 to 18: a question that is answered changes nothing");
        changesNothing("at(0, 3)", x -> x.at(0, 3), 301);
        changesNothing("number(1)", x -> x.number(1), 2);
        changesNothing("gap(0)", x -> x.gap(0), 1);
        changesNothing("rows()", x -> x.rows(), 4);
        changesNothing("made()", x -> x.made(), 3);
        changesNothing("share(0, 6)", x -> x.share(0, 6), 174);
        changesNothing("print(1, 0)", x -> x.print(1, 0), '2');
        changesNothing("byteAt(0, 0)", x -> x.byteAt(0, 0), 1);
        changesNothing("digest(1, 9)", x -> x.digest(1, 9) < 0 ? 0 : 1, 1);
        changesNothing("check(0)", x -> x.check(0), 2);
        changesNothing("root(2, 5)", x -> x.root(2, 5) < 0 ? 0 : 1, 1);
    }

    private static TicketChain full() {
        TicketChain x = new TicketChain();
        x.follows(0, 1, 3);
        for (int k = 0; k < 198; k++) {
            x.ticket(k % 100, k % 10, 5 + k, 1, k, k);
        }
        x.voids(7, 7);
        x.correct(8, 2, 9, 9);
        return x;
    }

    private static List<Long> askFull(TicketChain x) {
        List<Long> answers = new ArrayList<>();
        answers.add((long) x.rows());
        answers.add((long) x.made());
        answers.add((long) x.gap(0));
        answers.add((long) x.number(198));
        for (int ticket : new int[] {0, 7, 8, 197}) {
            for (int field = 0; field <= 8; field++) {
                answers.add(x.at(ticket, field));
            }
        }
        for (int row = 197; row < 200; row++) {
            for (int i = 0; i < 73; i++) {
                answers.add((long) x.byteAt(row, i));
            }
        }
        answers.add((long) x.digest(200, 0));
        answers.add((long) x.check(0));
        answers.add((long) x.check(200));
        answers.add((long) x.root(0, 0));
        answers.add((long) x.root(1, 0));
        return answers;
    }

    private static void refusedAtFull(String what, Call call) {
        same(what, call, NONE, full(), full(), RefusedTest::askFull);
    }

    private static void refusedAt200Rows() {
        Due.of("3 to 5: a call refused as there are 200 rows changes nothing");
        refusedAtFull("ticket", x -> x.ticket(0, 0, 5, 1, DAY, 0));
        refusedAtFull("ticket of the vehicle's tare", x -> x.ticket(1, 0, 5, -1, DAY, 0));
        refusedAtFull("spoiled ticket", x -> x.ticket(0, 0, 5, 6, 0, 0));
        refusedAtFull("spoiled ticket of the vehicle's tare", x -> x.ticket(1, 0, 2, -1, 0, 0));
        refusedAtFull("correct", x -> x.correct(0, 3, 99, 1));
        refusedAtFull("correct the second", x -> x.correct(0, 6, DAY, 1));
        refusedAtFull("voids", x -> x.voids(0, 1));
    }

    private static TicketChain used() {
        TicketChain x = new TicketChain();
        x.ticket(0, 0, 5, 1, 0, 0);
        for (int k = 0; k < 399; k++) {
            x.ticket(0, 0, 0, 1, 0, 0);
        }
        return x;
    }

    private static List<Long> askUsed(TicketChain x) {
        List<Long> answers = new ArrayList<>();
        answers.add((long) x.rows());
        answers.add((long) x.made());
        for (int k = 396; k <= 400; k++) {
            answers.add((long) x.gap(k));
        }
        for (int field = 0; field <= 8; field++) {
            answers.add(x.at(0, field));
            answers.add(x.at(1, field));
        }
        answers.add((long) x.check(0));
        answers.add((long) x.check(1));
        answers.add((long) x.check(2));
        answers.add((long) x.root(0, 0));
        return answers;
    }

    private static void refusedAt400Numbers() {
        Due.of("3: a call refused as 400 numbers were used changes nothing");
        same("ticket", x -> x.ticket(0, 0, 5, 1, 0, 0), NONE, used(), used(), RefusedTest::askUsed);
        same("spoiled ticket", x -> x.ticket(0, 0, 0, 1, 0, 0), NONE, used(), used(), RefusedTest::askUsed);
    }
}
