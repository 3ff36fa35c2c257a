/** Promises 6 to 13, sentence by sentence: each boundary case that one names has its own method here. */
public final class AnswerEdgesTest {
    private static final int NONE = TicketChain.NONE;
    private static final long TON = 1000000000L;
    private static final long LAST_SECOND = 8000000000L;
    private static final long MILLION = 1000000L;
    private static final int[] NO_CUSTOMERS = {-1, 8, 9, Integer.MAX_VALUE, Integer.MIN_VALUE};

    public static void main(String[] args) {
        ticketsFrom0On();
        reasonOfOneThatIsNotVoid();
        fieldsOfATicket();
        noFieldOfATicket();
        noTicketToAsk();
        numberOfATicket();
        noNumber();
        gapsFrom0On();
        noGap();
        rowsCounted();
        numbersCounted();

        noWeightAtFirst();
        leastAndGreatestWeight();
        partOfAVoidOne();
        noTicketToSplit();
        noCustomerToSplit();
        noSuchWeight();

        shareOfAVoidOne();
        shareDown();
        restsToTheGreatest();
        restsToTheLesserNumber();
        sharesOfTheGreatest();
        shareOfANetOf0();
        noTicketToShare();
        noCustomerToShare();
        allWeights0();
        allWeights0OfAVoidOne();

        shortestForm();
        longestForm();
        formOfAVoidOne();
        noByteOfAForm();
        noTicketToPrint();
        Due.end();
    }

    private static TicketChain withNet(long net, long... weights) {
        TicketChain x = new TicketChain();
        x.ticket(0, 0, net, 0, 0, 0);
        for (int customer = 0; customer < weights.length; customer++) {
            Due.is("split", x.split(0, customer, weights[customer]), true);
        }
        return x;
    }

    private static void shares(String what, TicketChain x, long... due) {
        for (int customer = 0; customer < due.length; customer++) {
            Due.is(what + ", share(0, " + customer + ")", x.share(0, customer), due[customer]);
        }
    }

    private static void ticketsFrom0On() {
        Due.of("Terms: Tickets are told as the k-th of those that there are, from 0 on");
        TicketChain x = new TicketChain();
        x.ticket(0, 0, 0, 1, 0, 0);
        Due.is("the first", x.ticket(11, 0, 1, 1, 0, 0), 0);
        x.ticket(0, 0, 0, 1, 0, 0);
        x.ticket(0, 0, 0, 1, 0, 0);
        x.voids(0, 1);
        Due.is("the second", x.ticket(22, 0, 1, 1, 0, 0), 1);
        Due.is("at(0, 1)", x.at(0, 1), 11);
        Due.is("at(1, 1)", x.at(1, 1), 22);
        Due.is("at(2, 1)", x.at(2, 1), NONE);
        Due.is("at(-1, 1)", x.at(-1, 1), NONE);
        Due.is("number(1), which is no ticket's place", x.number(1), 4);
    }

    private static void reasonOfOneThatIsNotVoid() {
        Due.of("Terms: 8 the reason of which it is void (1 .. 99; 0 as long as it is not)");
        TicketChain x = withNet(5);
        Due.is("at first", x.at(0, 8), 0);
        x.correct(0, 2, 9, 9);
        x.voids(0, 0);
        x.voids(0, 100);
        Due.is("after a correction and refused voids", x.at(0, 8), 0);
        x.voids(0, 1);
        Due.is("void", x.at(0, 8), 1);
    }

    private static void fieldsOfATicket() {
        Due.of("6: A field of a ticket, 0 .. 8");
        TicketChain x = new TicketChain();
        x.ticket(0, 0, 0, 1, 0, 0);
        x.ticket(99, 9, TON, 0, LAST_SECOND, 999);
        x.ticket(0, 0, 0, 0, 0, 0);
        x.voids(0, 99);
        long[] greatest = {1, 99, 9, TON, 0, TON, LAST_SECOND, 999, 99};
        long[] least = {2, 0, 0, 0, 0, 0, 0, 0, 0};
        for (int field = 0; field <= 8; field++) {
            Due.is("at(0, " + field + ")", x.at(0, field), greatest[field]);
            Due.is("at(1, " + field + ")", x.at(1, field), least[field]);
        }
    }

    private static void noFieldOfATicket() {
        Due.of("6: NONE when there is none such: no such field");
        TicketChain x = withNet(5);
        for (int field : new int[] {-1, 9, 10, Integer.MAX_VALUE, Integer.MIN_VALUE}) {
            Due.is("at(0, " + field + ")", x.at(0, field), NONE);
        }
    }

    private static void noTicketToAsk() {
        Due.of("6: NONE when there is none such: no such ticket");
        Due.is("no ticket", new TicketChain().at(0, 1), NONE);
        TicketChain x = withNet(5);
        x.ticket(0, 0, 0, 1, 0, 0);
        for (int ticket : new int[] {-1, 1, 2, Integer.MAX_VALUE, Integer.MIN_VALUE}) {
            for (int field = 0; field <= 8; field++) {
                Due.is("at(" + ticket + ", " + field + ")", x.at(ticket, field), NONE);
            }
        }
    }

    private static void numberOfATicket() {
        Due.of("7: The number of a ticket");
        TicketChain x = new TicketChain();
        for (int k = 0; k < 200; k++) {
            x.ticket(0, 0, 0, 1, 0, 0);
            x.ticket(0, 0, 1, 1, 0, 0);
        }
        Due.is("number(0)", x.number(0), 1);
        Due.is("number(1)", x.number(1), 3);
        Due.is("number(199)", x.number(199), 399);
        Due.is("at(199, 0)", x.at(199, 0), 399);
        Due.is("number(200)", x.number(200), NONE);
    }

    private static void noNumber() {
        Due.of("7: NONE when there is none such");
        Due.is("no ticket", new TicketChain().number(0), NONE);
        TicketChain x = withNet(5);
        x.ticket(0, 0, 0, 1, 0, 0);
        for (int ticket : new int[] {-1, 1, 2, Integer.MAX_VALUE, Integer.MIN_VALUE}) {
            Due.is("number(" + ticket + ")", x.number(ticket), NONE);
        }
    }

    private static void gapsFrom0On() {
        Due.of("8: The k-th number that was spoiled, from 0 on");
        TicketChain x = new TicketChain();
        x.ticket(0, 0, 0, 1, 0, 0);
        x.ticket(0, 0, 1, 1, 0, 0);
        x.ticket(0, 0, 0, 1, 0, 0);
        x.voids(0, 1);
        Due.is("gap(0)", x.gap(0), 0);
        Due.is("gap(1)", x.gap(1), 2);
        Due.is("a void one's number is no gap", x.gap(2), NONE);
    }

    private static void noGap() {
        Due.of("8: NONE when there is none such");
        TicketChain x = new TicketChain();
        Due.is("no number", x.gap(0), NONE);
        x.ticket(0, 0, 1, 1, 0, 0);
        Due.is("a number, but none that was spoiled", x.gap(0), NONE);
        x.ticket(0, 0, 0, 1, 0, 0);
        for (int k : new int[] {-1, 1, 2, 399, 400, Integer.MAX_VALUE, Integer.MIN_VALUE}) {
            Due.is("gap(" + k + ")", x.gap(k), NONE);
        }
    }

    private static void rowsCounted() {
        Due.of("9: How many rows there are");
        TicketChain x = new TicketChain();
        Due.is("none", x.rows(), 0);
        x.ticket(0, 0, 0, 1, 0, 0);
        Due.is("none by a spoiled number", x.rows(), 0);
        x.follows(0, 0, 0);
        Due.is("none by a tare", x.rows(), 0);
        x.ticket(0, 0, 1, -1, 0, 0);
        Due.is("one by a ticket", x.rows(), 1);
        x.split(0, 0, 1);
        x.poke(0, 0, 1);
        Due.is("none by a part or by poking", x.rows(), 1);
        x.correct(0, 2, 0, 0);
        Due.is("one by a correction", x.rows(), 2);
        x.voids(0, 1);
        Due.is("one by a void", x.rows(), 3);
        for (int row = 3; row < 200; row++) {
            x.ticket(0, 0, 1, 1, 0, 0);
            Due.is("one by each", x.rows(), row + 1);
        }
        x.ticket(0, 0, 1, 1, 0, 0);
        x.correct(1, 2, 0, 0);
        x.voids(1, 1);
        Due.is("200 at most", x.rows(), 200);
    }

    private static void numbersCounted() {
        Due.of("10: How many numbers were used");
        TicketChain x = new TicketChain();
        Due.is("none", x.made(), 0);
        x.ticket(0, 0, 0, 1, 0, 0);
        Due.is("one by a spoiled number", x.made(), 1);
        x.ticket(0, 0, 1, 1, 0, 0);
        Due.is("one by a ticket", x.made(), 2);
        x.correct(0, 2, 0, 0);
        x.voids(0, 1);
        x.follows(0, 0, 0);
        x.ticket(0, 0, -1, 1, 0, 0);
        Due.is("none by anything else", x.made(), 2);
        for (int k = 2; k < 400; k++) {
            x.ticket(0, 0, 0, 1, 0, 0);
        }
        Due.is("400", x.made(), 400);
        x.ticket(0, 0, 0, 1, 0, 0);
        x.ticket(0, 0, 1, 1, 0, 0);
        Due.is("400 at most", x.made(), 400);
    }

    private static void noWeightAtFirst() {
        Due.of("11: 0 at first");
        TicketChain x = withNet(70);
        for (int customer = 0; customer <= 7; customer++) {
            Due.is("no weight yet", x.share(0, customer), NONE);
        }
        x.split(0, 3, 1);
        shares("one weight", x, 0, 0, 0, 70, 0, 0, 0, 0);
        x.ticket(0, 0, 70, 0, 0, 0);
        Due.is("another ticket", x.share(1, 3), NONE);
    }

    private static void leastAndGreatestWeight() {
        Due.of("11: A customer (0 .. 7) has a part of a ticket's load by a weight (0 .. 1000000");
        TicketChain x = withNet(TON);
        Due.is("customer 0, weight 1000000", x.split(0, 0, MILLION), true);
        Due.is("customer 7, weight 1", x.split(0, 7, 1), true);
        shares("a million to one", x, 999999000, 0, 0, 0, 0, 0, 0, 1000);
        Due.is("customer 0, weight 0", x.split(0, 0, 0), true);
        shares("the new weight", x, 0, 0, 0, 0, 0, 0, 0, TON);
        Due.is("customer 0, weight 999999", x.split(0, 0, MILLION - 1), true);
        shares("999999 to one", x, 999999000, 0, 0, 0, 0, 0, 0, 1000);
        Due.is("all the same weight again", x.split(0, 7, 1), true);
        shares("and it is not added", x, 999999000, 0, 0, 0, 0, 0, 0, 1000);
    }

    private static void partOfAVoidOne() {
        Due.of("11: (Also of a void one.)");
        TicketChain x = withNet(70);
        x.voids(0, 1);
        Due.is("split", x.split(0, 0, 4), true);
        Due.is("its weights are not all 0", x.share(0, 0), 0);
        Due.is("split back", x.split(0, 0, 0), true);
        Due.is("its weights are all 0", x.share(0, 0), NONE);
    }

    private static void noTicketToSplit() {
        Due.of("11: false when there is no such ticket");
        Due.is("no ticket", new TicketChain().split(0, 0, 0), false);
        TicketChain x = withNet(70);
        x.ticket(0, 0, 0, 1, 0, 0);
        for (int ticket : new int[] {-1, 1, 2, Integer.MAX_VALUE, Integer.MIN_VALUE}) {
            Due.is("split(" + ticket + ", ..)", x.split(ticket, 0, 1), false);
        }
        Due.is("ticket 0 stays", x.share(0, 0), NONE);
    }

    private static void noCustomerToSplit() {
        Due.of("11: false when there is no such .. customer");
        TicketChain x = withNet(70);
        for (int customer : NO_CUSTOMERS) {
            Due.is("customer " + customer, x.split(0, customer, 1), false);
            Due.is("customer " + customer + ", weight 0", x.split(0, customer, 0), false);
        }
        for (int customer = 0; customer <= 7; customer++) {
            Due.is("the others stay", x.share(0, customer), NONE);
        }
        Due.is("customer 0", x.split(0, 0, 1), true);
        Due.is("customer 7", x.split(0, 7, 1), true);
    }

    private static void noSuchWeight() {
        Due.of("11: false when there is no such .. weight");
        TicketChain x = withNet(70, 3, 4);
        for (long weight : new long[] {-1, MILLION + 1, 1L << 32, (1L << 32) - 1, Long.MAX_VALUE, Long.MIN_VALUE}) {
            Due.is("weight " + weight, x.split(0, 0, weight), false);
            Due.is("weight " + weight + " of one that has none", x.split(0, 7, weight), false);
        }
        shares("the weights stay", x, 30, 40, 0, 0, 0, 0, 0, 0);
    }

    private static void shareOfAVoidOne() {
        Due.of("12: (of 0, when it is void)");
        TicketChain x = withNet(70, 3, 4);
        x.voids(0, 1);
        shares("void", x, 0, 0, 0, 0, 0, 0, 0, 0);
        Due.is("its net stays", x.at(0, 5), 70);
    }

    private static void shareDown() {
        Due.of("12: net times weight over all weights of it, down");
        shares("no rest", withNet(70, 3, 4), 30, 40, 0, 0, 0, 0, 0, 0);
        shares("just below a whole one", withNet(7, 999999, 0, 0, 0, 0, 0, 0, 1), 7, 0, 0, 0, 0, 0, 0, 0);
        shares("one customer", withNet(69, 0, 0, 9), 0, 0, 69, 0, 0, 0, 0, 0);
        TicketChain x = new TicketChain();
        x.ticket(0, 0, 90, 20, 0, 0);
        x.split(0, 0, 3);
        x.split(0, 1, 4);
        shares("net, not gross", x, 30, 40);
        x.correct(0, 4, 83, 0);
        shares("net as it is now", x, 3, 4);
    }

    private static void restsToTheGreatest() {
        Due.of("12: what is left of the net goes by ones to those of whom the greatest rest was cut off");
        // Over 10: 1.1, 2.2, 7.7: one is left.
        shares("one is left", withNet(11, 1, 2, 7), 1, 2, 8, 0, 0, 0, 0, 0);
        shares("one is left, the greatest rest first", withNet(11, 7, 2, 1), 8, 2, 1, 0, 0, 0, 0, 0);
        // Over 10: 0.7, 1.4, 4.9: two are left, 0.4 gets none.
        shares("two are left", withNet(7, 1, 2, 7), 1, 1, 5, 0, 0, 0, 0, 0);
        // Over 8: 7/8 each of eight customers: seven are left.
        shares("seven are left", withNet(7, 1, 1, 1, 1, 1, 1, 1, 1), 1, 1, 1, 1, 1, 1, 1, 0);
        // Over 4: 2.5, 2.5 and 5: the one without a rest gets none, whatever its number is.
        shares("none without a rest", withNet(10, 2, 1, 1), 5, 3, 2, 0, 0, 0, 0, 0);
    }

    private static void restsToTheLesserNumber() {
        Due.of("12: of the same rests to the lesser number first");
        shares("two of the same", withNet(1, 0, 5, 0, 0, 0, 0, 5, 0), 0, 1, 0, 0, 0, 0, 0, 0);
        shares("the first and the last", withNet(1, 5, 0, 0, 0, 0, 0, 0, 5), 1, 0, 0, 0, 0, 0, 0, 0);
        shares("two left, three of the same", withNet(5, 0, 1, 1, 1), 0, 2, 2, 1, 0, 0, 0, 0);
        // Rests 4, 4, 8 and 2 of 9: two are left.
        shares("behind a greater rest of a higher number", withNet(2, 2, 2, 4, 1), 1, 0, 1, 0, 0, 0, 0, 0);
        // Over 8: 0.5, 1.5 and 2: the same rest of a lesser and a greater weight.
        shares("of a lesser weight", withNet(4, 1, 3, 4), 1, 1, 2, 0, 0, 0, 0, 0);
        shares("of a greater weight", withNet(4, 3, 1, 4), 2, 0, 2, 0, 0, 0, 0, 0);
    }

    private static void sharesOfTheGreatest() {
        Due.of("12: A customer's share, of the greatest net and weights");
        long[] all = {MILLION, MILLION, MILLION, MILLION, MILLION, MILLION, MILLION, MILLION};
        long eighth = TON / 8;
        shares("the greatest", withNet(TON, all), eighth, eighth, eighth, eighth, eighth, eighth, eighth, eighth);
        shares("one below", withNet(TON - 1, all), eighth, eighth, eighth, eighth, eighth, eighth, eighth, eighth - 1);
        shares("one customer alone", withNet(TON, 0, MILLION), 0, TON, 0, 0, 0, 0, 0, 0);
    }

    private static void shareOfANetOf0() {
        Due.of("12: A customer's share, of a net of 0");
        shares("a net of 0", withNet(0, 1, 2, 3), 0, 0, 0, 0, 0, 0, 0, 0);
        Due.is("without weights", withNet(0).share(0, 0), NONE);
    }

    private static void noTicketToShare() {
        Due.of("12: NONE when there is no such ticket");
        Due.is("no ticket", new TicketChain().share(0, 0), NONE);
        TicketChain x = withNet(70, 1);
        x.ticket(0, 0, 0, 1, 0, 0);
        for (int ticket : new int[] {-1, 1, 2, Integer.MAX_VALUE, Integer.MIN_VALUE}) {
            Due.is("share(" + ticket + ", 0)", x.share(ticket, 0), NONE);
        }
    }

    private static void noCustomerToShare() {
        Due.of("12: NONE when there is no such .. customer");
        TicketChain x = withNet(70, 1, 1, 1, 1, 1, 1, 1, 1);
        for (int customer : NO_CUSTOMERS) {
            Due.is("share(0, " + customer + ")", x.share(0, customer), NONE);
        }
        x.voids(0, 1);
        for (int customer : NO_CUSTOMERS) {
            Due.is("of a void one, share(0, " + customer + ")", x.share(0, customer), NONE);
        }
    }

    private static void allWeights0() {
        Due.of("12: NONE when .. all weights are 0");
        TicketChain x = withNet(70);
        shares("at first", x, NONE, NONE, NONE, NONE, NONE, NONE, NONE, NONE);
        x.split(0, 7, 1);
        shares("one weight", x, 0, 0, 0, 0, 0, 0, 0, 70);
        x.split(0, 7, 0);
        shares("again", x, NONE, NONE, NONE, NONE, NONE, NONE, NONE, NONE);
    }

    private static void allWeights0OfAVoidOne() {
        Due.of("12: NONE when .. all weights are 0, of a void one as well; (of 0, when it is void) and nothing else");
        TicketChain x = withNet(70);
        x.voids(0, 1);
        shares("never split", x, NONE, NONE, NONE, NONE, NONE, NONE, NONE, NONE);
        x.split(0, 4, 9);
        shares("split", x, 0, 0, 0, 0, 0, 0, 0, 0);
        x.split(0, 4, 0);
        shares("split back", x, NONE, NONE, NONE, NONE, NONE, NONE, NONE, NONE);
        TicketChain y = withNet(70, 3, 4);
        y.voids(0, 1);
        y.split(0, 0, 0);
        shares("one weight is left", y, 0, 0, 0, 0, 0, 0, 0, 0);
        y.split(0, 1, 0);
        shares("none is left", y, NONE, NONE, NONE, NONE, NONE, NONE, NONE, NONE);
    }

    /** A form whole, and NONE before and behind it. */
    private static void formIs(TicketChain x, int ticket, String due) {
        for (int i = 0; i < due.length(); i++) {
            Due.is("print(" + ticket + ", " + i + ") of " + due, x.print(ticket, i), due.charAt(i));
        }
        Due.is("behind " + due, x.print(ticket, due.length()), NONE);
        Due.is("before " + due, x.print(ticket, -1), NONE);
    }

    private static void shortestForm() {
        Due.of("13: the decimals of its fields 0 to 7, a blank between them: the shortest");
        formIs(withNet(0), 0, "0 0 0 0 0 0 0 0");
        TicketChain x = new TicketChain();
        x.ticket(9, 9, 9, 0, 9, 9);
        x.ticket(10, 0, 10, 0, 10, 10);
        x.ticket(99, 0, 109, 9, 1000, 100);
        formIs(x, 0, "0 9 9 9 0 9 9 9");
        formIs(x, 1, "1 10 0 10 0 10 10 10");
        formIs(x, 2, "2 99 0 109 9 100 1000 100");
    }

    private static void longestForm() {
        Due.of("13: the decimals of its fields 0 to 7, a blank between them: the longest");
        TicketChain x = new TicketChain();
        for (int k = 0; k < 399; k++) {
            x.ticket(0, 0, 0, 1, 0, 0);
        }
        // A tare and a net of nine digits each are longer than one of ten beside a 0.
        x.ticket(99, 9, TON, 500000001L, LAST_SECOND, 999);
        x.voids(0, 99);
        formIs(x, 0, "399 99 9 1000000000 500000001 499999999 8000000000 999 VOID 99");
        TicketChain y = new TicketChain();
        y.ticket(99, 9, TON, 0, LAST_SECOND, 999);
        y.ticket(99, 9, TON, TON, LAST_SECOND, 999);
        formIs(y, 0, "0 99 9 1000000000 0 1000000000 8000000000 999");
        formIs(y, 1, "1 99 9 1000000000 1000000000 0 8000000000 999");
    }

    private static void formOfAVoidOne() {
        Due.of("13: and, when it is void, a blank, VOID, a blank and the reason");
        TicketChain x = new TicketChain();
        for (int k = 0; k < 5; k++) {
            x.ticket(k, 0, TON, 1, LAST_SECOND, 0);
        }
        int[] reasons = {1, 9, 10, 99};
        for (int ticket = 0; ticket < reasons.length; ticket++) {
            x.voids(ticket, reasons[ticket]);
            formIs(x, ticket, ticket + " " + ticket + " 0 1000000000 1 999999999 8000000000 0 VOID " + reasons[ticket]);
        }
        formIs(x, 4, "4 4 0 1000000000 1 999999999 8000000000 0");
    }

    private static void noByteOfAForm() {
        Due.of("13: NONE when there is none such: no such byte");
        TicketChain x = withNet(0);
        x.ticket(10, 0, 10, 0, 0, 0);
        x.voids(1, 10);
        Due.is("the longer form is printed", x.print(1, 20), 'O');
        for (int i : new int[] {-1, 15, 16, 63, 64, 100, Integer.MAX_VALUE, Integer.MIN_VALUE}) {
            Due.is("print(0, " + i + ")", x.print(0, i), NONE);
        }
        Due.is("the last byte", x.print(0, 14), '0');
        Due.is("the first byte", x.print(0, 0), '0');
    }

    private static void noTicketToPrint() {
        Due.of("13: NONE when there is none such: no such ticket");
        Due.is("no ticket", new TicketChain().print(0, 0), NONE);
        TicketChain x = withNet(0);
        x.ticket(0, 0, 0, 1, 0, 0);
        Due.is("print(0, 0)", x.print(0, 0), '0');
        for (int ticket : new int[] {-1, 1, 2, Integer.MAX_VALUE, Integer.MIN_VALUE}) {
            Due.is("print(" + ticket + ", 0)", x.print(ticket, 0), NONE);
        }
    }
}
