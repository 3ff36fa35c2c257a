/** Promises 11 and 12: parts of a load by weights, and the shares of the net. */
public final class SharesTest {
    private static final int NONE = TicketChain.NONE;
    private static final long MILLION = 1000000L;

    public static void main(String[] args) {
        promise11Split();
        promise12NoWeights();
        promise12Thirds();
        promise12GreatestRest();
        promise12SameRests();
        promise12GreatNumbers();
        promise12VoidAndCorrected();
        Due.end();
    }

    private static TicketChain withNet(long net) {
        TicketChain x = new TicketChain();
        x.ticket(0, 0, net, 0, 0, 0);
        return x;
    }

    private static void weights(TicketChain x, long... weights) {
        for (int customer = 0; customer < weights.length; customer++) {
            Due.is("split(0, " + customer + ", ..)", x.split(0, customer, weights[customer]), true);
        }
    }

    private static void shares(String what, TicketChain x, long... due) {
        for (int customer = 0; customer < due.length; customer++) {
            Due.is(what + ": share(0, " + customer + ")", x.share(0, customer), due[customer]);
        }
    }

    private static void promise11Split() {
        TicketChain x = withNet(100);
        Due.is("customer 0", x.split(0, 0, 0), true);
        Due.is("customer 7", x.split(0, 7, MILLION), true);
        Due.is("customer -1", x.split(0, -1, 1), false);
        Due.is("customer 8", x.split(0, 8, 1), false);
        Due.is("weight -1", x.split(0, 7, -1), false);
        Due.is("weight above", x.split(0, 7, MILLION + 1), false);
        Due.is("weight 2^32", x.split(0, 7, 1L << 32), false);
        Due.is("ticket -1", x.split(-1, 0, 1), false);
        Due.is("ticket 1", x.split(1, 0, 1), false);
        shares("what was refused changed nothing", x, 0, 0, 0, 0, 0, 0, 0, 100);
        x.ticket(0, 0, 50, 0, 0, 0);
        Due.is("another ticket has its own weights", x.share(1, 7), NONE);
        x.voids(0, 1);
        Due.is("of a void one", x.split(0, 1, 5), true);
        Due.is("no row for a split", x.rows(), 3);
    }

    private static void promise12NoWeights() {
        TicketChain x = withNet(100);
        Due.is("no weights", x.share(0, 0), NONE);
        Due.is("ticket 1", x.share(1, 0), NONE);
        weights(x, 1);
        Due.is("customer -1", x.share(0, -1), NONE);
        Due.is("customer 8", x.share(0, 8), NONE);
        Due.is("ticket -1", x.share(-1, 0), NONE);
        Due.is("ticket 1", x.share(1, 0), NONE);
        Due.is("a customer without weight", x.share(0, 1), 0);
        Due.is("all of it", x.share(0, 0), 100);
        weights(x, 0);
        Due.is("no weights again", x.share(0, 0), NONE);
    }

    private static void promise12Thirds() {
        TicketChain x = withNet(100);
        weights(x, 1, 0, 0, 1, 0, 0, 0, 1);
        shares("100 by thirds", x, 34, 0, 0, 33, 0, 0, 0, 33);
        x.correct(0, 3, 101, 0);
        shares("101 by thirds", x, 34, 0, 0, 34, 0, 0, 0, 33);
        x.correct(0, 3, 102, 0);
        shares("102 by thirds", x, 34, 0, 0, 34, 0, 0, 0, 34);
    }

    private static void promise12GreatestRest() {
        TicketChain x = withNet(10);
        weights(x, 1, 2, 4);
        // 10/7 = 1 rest 3, 20/7 = 2 rest 6, 40/7 = 5 rest 5: two are left, for customers 1 and 2.
        shares("10 by 1, 2, 4", x, 1, 3, 6, 0, 0, 0, 0, 0);
        TicketChain y = withNet(4);
        weights(y, 4, 2, 1);
        // 16/7 = 2 rest 2, 8/7 = 1 rest 1, 4/7 = 0 rest 4: one is left, for customer 2.
        shares("4 by 4, 2, 1", y, 2, 1, 1, 0, 0, 0, 0, 0);
    }

    private static void promise12SameRests() {
        TicketChain x = withNet(5);
        weights(x, 1, 1, 1, 1, 1, 1, 1, 1);
        shares("5 by eighths", x, 1, 1, 1, 1, 1, 0, 0, 0);
        TicketChain y = withNet(9);
        weights(y, 0, 2, 2, 0, 3, 0, 0, 2);
        // 18/9 = 2, 27/9 = 3: nothing is left.
        shares("9 without rests", y, 0, 2, 2, 0, 3, 0, 0, 2);
        TicketChain z = withNet(1);
        weights(z, 0, 0, 0, 0, 0, 1, 2, 2);
        shares("1 by 1, 2, 2", z, 0, 0, 0, 0, 0, 0, 1, 0);
    }

    private static void promise12GreatNumbers() {
        TicketChain x = withNet(1000000000L);
        weights(x, MILLION, MILLION, MILLION, MILLION, MILLION, MILLION, MILLION, MILLION - 1);
        // By 7999999: 125000015 rest 5000015 for the seven, 124999890 rest 4999895 for the eighth; 5 are left.
        shares("the greatest", x, 125000016, 125000016, 125000016, 125000016, 125000016, 125000015, 125000015,
            124999890);
        TicketChain y = withNet(1000000000L);
        weights(y, MILLION);
        shares("all of the greatest", y, 1000000000L, 0, 0, 0, 0, 0, 0, 0);
    }

    private static void promise12VoidAndCorrected() {
        TicketChain x = new TicketChain();
        x.ticket(0, 0, 150, 50, 0, 0);
        weights(x, 1, 3);
        shares("net, not gross", x, 25, 75);
        x.correct(0, 4, 100, 0);
        shares("the net as it is now", x, 13, 37);
        x.voids(0, 1);
        shares("void", x, 0, 0, 0, 0, 0, 0, 0, 0);
        weights(x, 0, 0);
        shares("void and without weights", x, NONE, NONE, NONE, NONE, NONE, NONE, NONE, NONE);
    }
}
