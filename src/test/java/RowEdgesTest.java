import java.nio.ByteBuffer;
import java.security.MessageDigest;
import java.security.NoSuchAlgorithmException;
import java.util.ArrayList;
import java.util.Arrays;
import java.util.List;

/** The terms of rows and promises 14 to 18, sentence by sentence: each boundary case has its own method here. */
public final class RowEdgesTest {
    private static final int NONE = TicketChain.NONE;
    private static final long DAY = 86400L;
    private static final long TON = 1000000000L;
    private static final long LAST_SECOND = 8000000000L;
    private static final int[] NO_DIGEST_BYTES = {-1, 32, 33, -41, 73, Integer.MAX_VALUE, Integer.MIN_VALUE};

    public static void main(String[] args) throws NoSuchAlgorithmException {
        wordsWrapAround();
        sumOf73And64();
        rowOfThreeSorts();
        rowsAndTheirBytes();
        zerosUpTo40();
        zerosBeforeRow0();
        digestBeforeAsItWasThen();
        dayDown();
        dayBehindTheRow();

        firstAndLastByteToPoke();
        leastAndGreatestMask();
        noByteToPoke();
        noMaskToPoke();
        noRowToPoke();
        pokingChangesBytesAlone();

        byteOfARow();
        byteAtNoRow();
        byteAtNoByte();

        digestAsItIsNow();
        noDigestByte();
        noDigestRow();

        checkFindsTheFirst();
        checkFromOneOn();
        checkByTheDigestBefore();
        checkFindsNone();
        checkFromTheEnd();
        checkBelow0();
        checkAboveRows();
        checkOf200();

        rootOfOneRow();
        rootOfTwoRows();
        rootOfOddCounts();
        rootOf200();
        rootAsDigestsAreNow();
        noRootByte();
        noRowOfTheDay();
        Due.end();
    }

    // The Java library's SHA-256 is the sum that the document writes out.
    private static byte[] sum(byte[]... parts) throws NoSuchAlgorithmException {
        MessageDigest digest = MessageDigest.getInstance("SHA-256");
        for (byte[] part : parts) {
            digest.update(part);
        }
        return digest.digest();
    }

    private static byte[] head(int sort, int number, long... values) {
        ByteBuffer head = ByteBuffer.allocate(41).put((byte) sort).putInt(number);
        int[][] widths = {{}, {4, 4, 8, 8, 8, 4}, {4, 8, 4}, {4}};
        for (int k = 0; k < values.length; k++) {
            if (widths[sort][k] == 8) {
                head.putLong(values[k]);
            } else {
                head.putInt((int) values[k]);
            }
        }
        return head.array();
    }

    private static void headIs(TicketChain x, int row, byte[] due) {
        for (int i = 0; i < 41; i++) {
            Due.is("byteAt(" + row + ", " + i + ")", x.byteAt(row, i), due[i] & 255);
        }
    }

    private static void digestIs(TicketChain x, int row, byte[] due) {
        for (int i = 0; i < 32; i++) {
            Due.is("digest(" + row + ", " + i + ")", x.digest(row, i), due[i] & 255);
        }
    }

    private static byte[] digestOf(TicketChain x, int row) {
        byte[] digest = new byte[32];
        for (int i = 0; i < 32; i++) {
            digest[i] = (byte) x.digest(row, i);
        }
        return digest;
    }

    private static void rootIs(TicketChain x, int day, byte[] due) {
        for (int i = 0; i < 32; i++) {
            Due.is("root(" + day + ", " + i + ")", x.root(day, i), due[i] & 255);
        }
    }

    /** An object with tickets alike, each of vehicle 1, kind 2, gross 3, tare 0, second 4 and person 5. */
    private static TicketChain withTickets(int count) {
        TicketChain x = new TicketChain();
        for (int k = 0; k < count; k++) {
            x.ticket(1, 2, 3, 0, 4, 5);
        }
        return x;
    }

    private static List<byte[]> digestsOfTickets(int count) throws NoSuchAlgorithmException {
        List<byte[]> digests = new ArrayList<>();
        byte[] before = new byte[32];
        for (int k = 0; k < count; k++) {
            before = sum(before, head(1, k, 1, 2, 3, 0, 4, 5));
            digests.add(before);
        }
        return digests;
    }

    private static void wordsWrapAround() throws NoSuchAlgorithmException {
        Due.of("Terms: WORDS are ints; they are added modulo 2^32");
        for (int k = 0; k < 64; k++) {
            TicketChain x = new TicketChain();
            x.ticket(k, k % 10, TON - k, TON / 64 * k, LAST_SECOND / 63 * k, 999 - k);
            digestIs(x, 0, sum(new byte[32],
                head(1, 0, k, k % 10, TON - k, TON / 64 * k, LAST_SECOND / 63 * k, 999 - k)));
        }
    }

    private static void sumOf73And64() throws NoSuchAlgorithmException {
        Due.of("Terms: a byte 128, then as few bytes 0, and then its length .. as make the whole a multiple of 64");
        TicketChain x = withTickets(2);
        List<byte[]> digests = digestsOfTickets(2);
        digestIs(x, 1, digests.get(1));
        rootIs(x, 0, sum(digests.get(0), digests.get(1)));
        digestIs(x, 1, digests.get(1));
    }

    private static void rowOfThreeSorts() {
        Due.of("Terms: byte 0 is 1 .. 2 .. 3; then, the highest byte first");
        TicketChain x = new TicketChain();
        for (int k = 0; k < 300; k++) {
            x.ticket(0, 0, 0, 1, 0, 0);
        }
        x.ticket(99, 9, TON, 987654321L, LAST_SECOND, 999);
        x.correct(0, 6, 7777777777L, 998);
        x.voids(0, 99);
        headIs(x, 0, head(1, 300, 99, 9, TON, 987654321L, LAST_SECOND, 999));
        headIs(x, 1, head(2, 300, 6, 7777777777L, 998));
        headIs(x, 2, head(3, 300, 99));
    }

    private static void rowsAndTheirBytes() {
        Due.of("Terms: ROWS, 200 at most, numbered from 0 on, each have 73 bytes");
        TicketChain x = withTickets(201);
        Due.is("rows()", x.rows(), 200);
        for (int row : new int[] {0, 1, 198, 199}) {
            Due.is("row " + row + ", byte 0", x.byteAt(row, 0), 1);
            Due.is("row " + row + ", byte 4", x.byteAt(row, 4), row);
            Due.is("row " + row + ", byte 72", x.byteAt(row, 72), x.digest(row, 31));
            Due.noByte(x, row, -1);
            Due.noByte(x, row, 73);
        }
        Due.noByte(x, -1, 0);
        Due.noByte(x, 200, 0);
        Due.is("the row's number is answered", withTickets(7).voids(6, 1), 7);
    }

    private static void zerosUpTo40() {
        Due.of("Terms: zeros up to byte 40");
        TicketChain x = new TicketChain();
        x.ticket(99, 9, TON, TON, LAST_SECOND, 999);
        x.correct(0, 6, LAST_SECOND, 999);
        x.voids(0, 99);
        Due.is("a ticket's last byte", x.byteAt(0, 40), 999 & 255);
        Due.is("a correction's last byte", x.byteAt(1, 20), 999 & 255);
        for (int i = 21; i <= 40; i++) {
            Due.is("a correction's byte " + i, x.byteAt(1, i), 0);
        }
        Due.is("a void's last byte", x.byteAt(2, 8), 99);
        for (int i = 9; i <= 40; i++) {
            Due.is("a void's byte " + i, x.byteAt(2, i), 0);
        }
    }

    private static void zerosBeforeRow0() throws NoSuchAlgorithmException {
        Due.of("Terms: the digest of the row before it (zeros for row 0)");
        TicketChain x = withTickets(2);
        byte[] first = sum(new byte[32], head(1, 0, 1, 2, 3, 0, 4, 5));
        digestIs(x, 0, first);
        digestIs(x, 1, sum(first, head(1, 1, 1, 2, 3, 0, 4, 5)));
        // A row that was summed before must leave nothing behind for the zeros of row 0.
        Due.is("check(0)", x.check(0), 0);
        Due.is("check(0) again", x.check(0), 0);
    }

    private static void digestBeforeAsItWasThen() throws NoSuchAlgorithmException {
        Due.of("Terms: the sum of the 32 bytes of the digest of the row before it .. as they are then");
        TicketChain x = withTickets(1);
        byte[] before = digestOf(x, 0);
        x.poke(0, 41, 255);
        x.poke(0, 72, 1);
        before[0] ^= (byte) 255;
        before[31] ^= 1;
        x.correct(0, 2, 2, 0);
        x.poke(0, 41, 255);
        digestIs(x, 1, sum(before, head(2, 0, 2, 2, 0)));
        x.poke(1, 0, 9);
        byte[] second = digestOf(x, 1);
        x.voids(0, 1);
        digestIs(x, 2, sum(second, head(3, 0, 1)));
    }

    private static void dayDown() {
        Due.of("Terms: The DAY of a second is it over 86400, down");
        TicketChain x = new TicketChain();
        long[] seconds = {0, DAY - 1, DAY, 2 * DAY - 1, LAST_SECOND};
        for (long second : seconds) {
            x.ticket(0, 0, 0, 0, second, 0);
        }
        TicketChain first = new TicketChain();
        first.ticket(0, 0, 0, 0, DAY - 1, 0);
        Due.is("second 86399", first.root(0, 0), first.digest(0, 0));
        Due.is("second 86399, day 1", first.root(1, 0), NONE);
        TicketChain second = new TicketChain();
        second.ticket(0, 0, 0, 0, DAY, 0);
        Due.is("second 86400", second.root(1, 0), second.digest(0, 0));
        Due.is("second 86400, day 0", second.root(0, 0), NONE);
        Due.is("second 8000000000", x.root(92592, 0), x.digest(4, 0));
        Due.is("the day before", x.root(92591, 0), NONE);
        Due.is("the day behind", x.root(92593, 0), NONE);
    }

    private static void dayBehindTheRow() {
        Due.of("Terms: A row is OF THE DAY of its ticket's second, as that is behind the row");
        TicketChain x = new TicketChain();
        x.ticket(0, 0, 0, 0, DAY, 0);
        x.correct(0, 6, 5 * DAY, 0);
        Due.is("the ticket's row", x.root(1, 0), x.digest(0, 0));
        Due.is("the row by which the second became another", x.root(5, 0), x.digest(1, 0));
        x.correct(0, 6, 9 * DAY, 0);
        x.voids(0, 1);
        Due.is("not of the day before", x.root(5, 31), x.digest(1, 31));
        Due.is("two rows of the last day", x.root(9, 0) != NONE && x.root(9, 0) != x.digest(2, 0), true);
    }

    private static void firstAndLastByteToPoke() {
        Due.of("14: Byte i (0 .. 72) of a row is changed by ^ of a mask. Answers true");
        TicketChain x = withTickets(2);
        int last = x.byteAt(1, 72);
        Due.is("byte 0", x.poke(1, 0, 6), true);
        Due.is("it is", x.byteAt(1, 0), 1 ^ 6);
        Due.is("byte 0 again", x.poke(1, 0, 6), true);
        Due.is("it is back", x.byteAt(1, 0), 1);
        Due.is("byte 72", x.poke(1, 72, 6), true);
        Due.is("it is", x.byteAt(1, 72), last ^ 6);
        Due.is("the row before", x.byteAt(0, 0), 1);
        Due.is("row 0", x.poke(0, 40, 5), true);
        Due.is("byte 40", x.byteAt(0, 40), 0);
        Due.is("row 1's", x.byteAt(1, 40), 5);
    }

    private static void leastAndGreatestMask() {
        Due.of("14: a mask (1 .. 255)");
        TicketChain x = withTickets(1);
        for (int mask : new int[] {1, 127, 128, 255}) {
            Due.is("mask " + mask, x.poke(0, 1, mask), true);
            Due.is("byte 1", x.byteAt(0, 1), mask);
            Due.is("mask " + mask + " back", x.poke(0, 1, mask), true);
            Due.is("byte 1", x.byteAt(0, 1), 0);
        }
    }

    private static void noByteToPoke() {
        Due.of("14: false when there is none such: no such byte");
        TicketChain x = withTickets(2);
        for (int i : new int[] {-1, 73, 74, -73, Integer.MAX_VALUE, Integer.MIN_VALUE}) {
            Due.is("byte " + i, x.poke(0, i, 1), false);
            Due.is("byte " + i + " of the last row", x.poke(1, i, 1), false);
        }
        Due.is("check(0)", x.check(0), 0);
    }

    private static void noMaskToPoke() {
        Due.of("14: false when there is none such: no such mask");
        TicketChain x = withTickets(1);
        for (int mask : new int[] {0, -1, 256, 257, 511, -255, Integer.MAX_VALUE, Integer.MIN_VALUE}) {
            Due.is("mask " + mask, x.poke(0, 5, mask), false);
            Due.is("byte 5", x.byteAt(0, 5), 0);
        }
        Due.is("check(0)", x.check(0), 0);
    }

    private static void noRowToPoke() {
        Due.of("14: false when there is none such: no such row");
        Due.is("no row", new TicketChain().poke(0, 0, 1), false);
        TicketChain x = withTickets(2);
        x.ticket(0, 0, 0, 1, 0, 0);
        for (int row : new int[] {-1, 2, 3, 200, Integer.MAX_VALUE, Integer.MIN_VALUE}) {
            Due.is("row " + row, x.poke(row, 0, 1), false);
        }
        Due.is("check(0)", x.check(0), 0);
        x.ticket(1, 2, 3, 0, 4, 5);
        Due.is("the next row", x.byteAt(2, 0), 1);
    }

    private static void pokingChangesBytesAlone() {
        Due.of("Terms: POKING changes but the bytes of a row");
        TicketChain x = withTickets(1);
        x.split(0, 0, 1);
        for (int i = 0; i < 73; i++) {
            x.poke(0, i, 255);
        }
        long[] due = {0, 1, 2, 3, 0, 3, 4, 5, 0};
        for (int field = 0; field <= 8; field++) {
            Due.is("at(0, " + field + ")", x.at(0, field), due[field]);
        }
        Due.is("number(0)", x.number(0), 0);
        Due.is("rows()", x.rows(), 1);
        Due.is("made()", x.made(), 1);
        Due.is("gap(0)", x.gap(0), NONE);
        Due.is("share(0, 0)", x.share(0, 0), 3);
        String form = "0 1 2 3 0 3 4 5";
        for (int i = 0; i < form.length(); i++) {
            Due.is("print(0, " + i + ")", x.print(0, i), form.charAt(i));
        }
        Due.is("its day", x.root(0, 0), x.digest(0, 0));
        Due.is("a poked sort makes no void", x.correct(0, 3, 2, 0), 1);
        headIs(x, 1, head(2, 0, 3, 2, 0));
        Due.is("voids", x.voids(0, 1), 2);
        headIs(x, 2, head(3, 0, 1));
    }

    private static void byteOfARow() {
        Due.of("15: Byte i of a row");
        TicketChain x = new TicketChain();
        x.ticket(0, 0, 255, 128, 0, 0);
        Due.is("byte 0", x.byteAt(0, 0), 1);
        Due.is("255", x.byteAt(0, 20), 255);
        Due.is("128", x.byteAt(0, 28), 128);
        Due.is("byte 40", x.byteAt(0, 40), 0);
        Due.is("byte 41", x.byteAt(0, 41), x.digest(0, 0));
        Due.is("byte 72", x.byteAt(0, 72), x.digest(0, 31));
    }

    private static void byteAtNoRow() {
        Due.of("15: ArrayIndexOutOfBoundsException: there is none such: no such row");
        Due.noByte(new TicketChain(), 0, 0);
        TicketChain x = withTickets(2);
        x.ticket(0, 0, 0, 1, 0, 0);
        for (int row : new int[] {-1, 2, 3, 199, 200, Integer.MAX_VALUE, Integer.MIN_VALUE}) {
            Due.noByte(x, row, 0);
            Due.noByte(x, row, 72);
        }
        TicketChain full = withTickets(200);
        Due.is("the last row", full.byteAt(199, 4), 199);
        Due.noByte(full, 200, 0);
    }

    private static void byteAtNoByte() {
        Due.of("15: ArrayIndexOutOfBoundsException: there is none such: no such byte");
        TicketChain x = withTickets(2);
        for (int i : new int[] {-1, 73, 74, Integer.MAX_VALUE, Integer.MIN_VALUE}) {
            Due.noByte(x, 0, i);
            Due.noByte(x, 1, i);
        }
    }

    private static void digestAsItIsNow() throws NoSuchAlgorithmException {
        Due.of("16: Byte i (0 .. 31) of a row's digest, as it is now");
        TicketChain x = withTickets(1);
        byte[] due = digestsOfTickets(1).get(0);
        digestIs(x, 0, due);
        x.poke(0, 41, 128);
        x.poke(0, 72, 1);
        due[0] ^= (byte) 128;
        due[31] ^= 1;
        digestIs(x, 0, due);
        x.poke(0, 40, 255);
        x.correct(0, 2, 9, 9);
        digestIs(x, 0, due);
    }

    private static void noDigestByte() {
        Due.of("16: NONE when there is none such: no such byte");
        TicketChain x = withTickets(2);
        for (int i : NO_DIGEST_BYTES) {
            Due.is("digest(0, " + i + ")", x.digest(0, i), NONE);
            Due.is("digest(1, " + i + ")", x.digest(1, i), NONE);
        }
    }

    private static void noDigestRow() {
        Due.of("16: NONE when there is none such: no such row");
        Due.is("no row", new TicketChain().digest(0, 0), NONE);
        TicketChain x = withTickets(2);
        for (int row : new int[] {-1, 2, 3, 200, Integer.MAX_VALUE, Integer.MIN_VALUE}) {
            Due.is("digest(" + row + ", 0)", x.digest(row, 0), NONE);
            Due.is("digest(" + row + ", 31)", x.digest(row, 31), NONE);
        }
        TicketChain full = withTickets(200);
        Due.is("the last row", full.digest(199, 0), full.byteAt(199, 41));
        Due.is("behind the last row", full.digest(200, 0), NONE);
    }

    private static void checkFindsTheFirst() {
        Due.of("17: 1 and the number of the first whose digest is not what it would be");
        for (int i = 0; i < 41; i++) {
            TicketChain x = withTickets(4);
            x.poke(3, i, 128);
            Due.is("byte " + i + " of row 3", x.check(0), 4);
            x.poke(1, i, 1);
            Due.is("byte " + i + " of row 1", x.check(0), 2);
            x.poke(0, i, 1);
            Due.is("byte " + i + " of row 0", x.check(0), 1);
        }
    }

    private static void checkFromOneOn() {
        Due.of("17: Goes over the rows from one on");
        TicketChain x = withTickets(4);
        x.poke(1, 10, 1);
        x.poke(3, 10, 1);
        int[] due = {2, 2, 4, 4, 0};
        for (int from = 0; from < due.length; from++) {
            Due.is("check(" + from + ")", x.check(from), due[from]);
        }
    }

    private static void checkByTheDigestBefore() {
        Due.of("17: by the digest of the row before it and by its own bytes, as these are now");
        for (int i = 41; i < 73; i++) {
            TicketChain x = withTickets(4);
            x.poke(1, i, 64);
            int[] due = {2, 2, 3, 0, 0};
            for (int from = 0; from < due.length; from++) {
                Due.is("byte " + i + " of row 1, check(" + from + ")", x.check(from), due[from]);
            }
            x.poke(1, i, 64);
            Due.is("byte " + i + " poked back", x.check(0), 0);
        }
        TicketChain y = withTickets(1);
        y.poke(0, 41, 1);
        y.voids(0, 1);
        Due.is("a row made behind a poked digest", y.check(1), 0);
        y.poke(0, 41, 1);
        Due.is("when that is poked back", y.check(0), 2);
    }

    private static void checkFindsNone() {
        Due.of("17: 0 when there is none");
        TicketChain x = withTickets(3);
        x.correct(0, 6, LAST_SECOND, 0);
        x.voids(1, 1);
        for (int from = 0; from < 5; from++) {
            Due.is("check(" + from + ")", x.check(from), 0);
        }
        x.poke(2, 5, 200);
        Due.is("behind the poked row", x.check(3), 0);
    }

    private static void checkFromTheEnd() {
        Due.of("17: (0 when it is just that.)");
        Due.is("no rows", new TicketChain().check(0), 0);
        TicketChain x = withTickets(3);
        Due.is("check(3)", x.check(3), 0);
        for (int row = 0; row < 3; row++) {
            x.poke(row, 50, 1);
        }
        Due.is("check(3), all rows poked", x.check(3), 0);
        Due.is("check(2)", x.check(2), 3);
    }

    private static void checkBelow0() {
        Due.of("17: NONE when from is below 0");
        for (int from : new int[] {-1, -2, Integer.MIN_VALUE}) {
            Due.is("no rows, check(" + from + ")", new TicketChain().check(from), NONE);
            Due.is("check(" + from + ")", withTickets(2).check(from), NONE);
        }
    }

    private static void checkAboveRows() {
        Due.of("17: NONE when from is .. above how many rows there are");
        Due.is("no rows, check(1)", new TicketChain().check(1), NONE);
        TicketChain x = withTickets(2);
        x.ticket(0, 0, 0, 1, 0, 0);
        for (int from : new int[] {3, 4, 200, Integer.MAX_VALUE}) {
            Due.is("check(" + from + ")", x.check(from), NONE);
        }
    }

    private static void checkOf200() {
        Due.of("17: 1 and the number of the first, of 200 rows");
        TicketChain x = withTickets(200);
        Due.is("nobody poked", x.check(0), 0);
        Due.is("check(200)", x.check(200), 0);
        Due.is("check(201)", x.check(201), NONE);
        x.poke(199, 72, 1);
        Due.is("the last row", x.check(0), 200);
        Due.is("the last row, from it on", x.check(199), 200);
        Due.is("behind it", x.check(200), 0);
        x.poke(0, 0, 1);
        Due.is("the first row", x.check(0), 1);
    }

    private static void rootOfOneRow() throws NoSuchAlgorithmException {
        Due.of("18: Byte i (0 .. 31) of the root of a day: of one row");
        rootIs(withTickets(1), 0, digestsOfTickets(1).get(0));
    }

    private static void rootOfTwoRows() throws NoSuchAlgorithmException {
        Due.of("Terms: each two .. become the sum of both");
        List<byte[]> d = digestsOfTickets(4);
        rootIs(withTickets(2), 0, sum(d.get(0), d.get(1)));
        rootIs(withTickets(4), 0, sum(sum(d.get(0), d.get(1)), sum(d.get(2), d.get(3))));
    }

    private static void rootOfOddCounts() throws NoSuchAlgorithmException {
        Due.of("Terms: and a last one without another stays");
        List<byte[]> d = digestsOfTickets(9);
        byte[] four = sum(sum(d.get(0), d.get(1)), sum(d.get(2), d.get(3)));
        byte[] next = sum(sum(d.get(4), d.get(5)), sum(d.get(6), d.get(7)));
        rootIs(withTickets(3), 0, sum(sum(d.get(0), d.get(1)), d.get(2)));
        rootIs(withTickets(5), 0, sum(four, d.get(4)));
        rootIs(withTickets(6), 0, sum(four, sum(d.get(4), d.get(5))));
        rootIs(withTickets(7), 0, sum(four, sum(sum(d.get(4), d.get(5)), d.get(6))));
        rootIs(withTickets(9), 0, sum(sum(four, next), d.get(8)));
    }

    private static void rootOf200() throws NoSuchAlgorithmException {
        Due.of("18: Byte i of the root of a day: of 200 rows");
        for (int count : new int[] {199, 200}) {
            List<byte[]> level = digestsOfTickets(count);
            while (level.size() > 1) {
                List<byte[]> above = new ArrayList<>();
                for (int k = 0; k < level.size(); k += 2) {
                    above.add(k + 1 < level.size() ? sum(level.get(k), level.get(k + 1)) : level.get(k));
                }
                level = above;
            }
            rootIs(withTickets(count), 0, level.get(0));
        }
    }

    private static void rootAsDigestsAreNow() throws NoSuchAlgorithmException {
        Due.of("Terms: the digests of its rows, in their order, as they are now");
        TicketChain x = new TicketChain();
        x.ticket(1, 2, 3, 0, 0, 5);
        x.ticket(1, 2, 3, 0, DAY, 5);
        x.ticket(1, 2, 3, 0, 0, 5);
        byte[] first = digestOf(x, 0);
        byte[] third = digestOf(x, 2);
        rootIs(x, 0, sum(first, third));
        x.poke(2, 72, 7);
        third[31] ^= 7;
        rootIs(x, 0, sum(first, third));
        x.poke(0, 0, 7);
        x.poke(1, 60, 7);
        rootIs(x, 0, sum(first, third));
        Due.is("the poked digest is not mended", Arrays.equals(digestOf(x, 2), third), true);
    }

    private static void noRootByte() {
        Due.of("18: NONE when there is none such");
        TicketChain x = withTickets(3);
        for (int i : NO_DIGEST_BYTES) {
            Due.is("root(0, " + i + ")", x.root(0, i), NONE);
        }
        Due.is("root(0, 0)", x.root(0, 0) != NONE, true);
        Due.is("root(0, 31)", x.root(0, 31) != NONE, true);
    }

    private static void noRowOfTheDay() {
        Due.of("18: NONE when .. no row is of that day");
        Due.is("no rows", new TicketChain().root(0, 0), NONE);
        TicketChain x = new TicketChain();
        x.ticket(0, 0, 0, 1, 3 * DAY, 0);
        Due.is("a spoiled number has no row", x.root(3, 0), NONE);
        x.ticket(0, 0, 0, 0, 5 * DAY, 0);
        for (int day : new int[] {0, 3, 4, 6, 92592, 100000, -1, -5, Integer.MAX_VALUE, Integer.MIN_VALUE}) {
            Due.is("root(" + day + ", 0)", x.root(day, 0), NONE);
        }
        Due.is("root(5, 0)", x.root(5, 0), x.digest(0, 0));
    }
}
