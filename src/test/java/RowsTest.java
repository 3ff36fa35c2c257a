import java.nio.ByteBuffer;
import java.security.MessageDigest;
import java.security.NoSuchAlgorithmException;
import java.util.ArrayList;
import java.util.Arrays;
import java.util.List;

/** Promises 3 to 5 as far as rows go, and 14 to 18: rows' bytes, digests, poking, check and root. */
public final class RowsTest {
    private static final int NONE = TicketChain.NONE;

    public static void main(String[] args) throws NoSuchAlgorithmException {
        promise3RowOfTicket();
        promise4RowOfCorrection();
        promise5RowOfVoid();
        promise14Poke();
        promise14OnlyBytes();
        promise15ByteAt();
        promise16Digest();
        promise16PokedBefore();
        promise17Check();
        promise17CheckFromOneOn();
        promise18RootOfCounts();
        promise18Days();
        promise18Poked();
        promise18NoSuch();
        Due.end();
    }

    // The Java library's SHA-256 is the sum that the document writes out.
    private static byte[] sum(byte[]... parts) throws NoSuchAlgorithmException {
        MessageDigest digest = MessageDigest.getInstance("SHA-256");
        for (byte[] part : parts) {
            digest.update(part);
        }
        return digest.digest();
    }

    private static byte[] bytesOf(TicketChain x, int row) {
        byte[] bytes = new byte[73];
        for (int i = 0; i < 73; i++) {
            bytes[i] = (byte) x.byteAt(row, i);
        }
        return bytes;
    }

    private static byte[] headOf(byte[] row) {
        return Arrays.copyOf(row, 41);
    }

    private static byte[] digestOf(byte[] row) {
        return Arrays.copyOfRange(row, 41, 73);
    }

    private static byte[] rootOf(List<byte[]> digests) throws NoSuchAlgorithmException {
        List<byte[]> level = digests;
        while (level.size() > 1) {
            List<byte[]> above = new ArrayList<>();
            for (int k = 0; k < level.size(); k += 2) {
                above.add(k + 1 < level.size() ? sum(level.get(k), level.get(k + 1)) : level.get(k));
            }
            level = above;
        }
        return level.get(0);
    }

    private static void rootIs(String what, TicketChain x, int day, byte[] due) {
        for (int i = 0; i < 32; i++) {
            Due.is(what + ": root(" + day + ", " + i + ")", x.root(day, i), due[i] & 255);
        }
    }

    private static void rowIs(TicketChain x, int row, byte[] head, byte[] before) throws NoSuchAlgorithmException {
        Due.is("row " + row, Arrays.toString(headOf(bytesOf(x, row))), Arrays.toString(head));
        Due.is("digest of row " + row, Arrays.toString(digestOf(bytesOf(x, row))),
            Arrays.toString(sum(before, head)));
    }

    private static byte[] ticketHead(int number, int vehicle, int kind, long gross, long tare, long second, int who) {
        return ByteBuffer.allocate(41).put((byte) 1).putInt(number).putInt(vehicle).putInt(kind).putLong(gross)
            .putLong(tare).putLong(second).putInt(who).array();
    }

    private static byte[] correctionHead(int number, int field, long v, int who) {
        return ByteBuffer.allocate(41).put((byte) 2).putInt(number).putInt(field).putLong(v).putInt(who).array();
    }

    private static byte[] voidHead(int number, int reason) {
        return ByteBuffer.allocate(41).put((byte) 3).putInt(number).putInt(reason).array();
    }

    private static void promise3RowOfTicket() throws NoSuchAlgorithmException {
        TicketChain x = new TicketChain();
        x.follows(0, 98, 200000000L);
        for (int k = 0; k < 300; k++) {
            x.ticket(0, 0, 0, 1, 0, 0);
        }
        x.ticket(98, 7, 987654321L, -1, 8000000000L, 999);
        byte[] head = ticketHead(300, 98, 7, 987654321L, 200000000L, 8000000000L, 999);
        rowIs(x, 0, head, new byte[32]);
        TicketChain y = new TicketChain();
        y.ticket(1, 2, 3, 0, 4, 5);
        y.ticket(1, 2, 3, 0, 4, 5);
        byte[] first = ticketHead(0, 1, 2, 3, 0, 4, 5);
        rowIs(y, 0, first, new byte[32]);
        rowIs(y, 1, ticketHead(1, 1, 2, 3, 0, 4, 5), sum(new byte[32], first));
    }

    private static void promise4RowOfCorrection() throws NoSuchAlgorithmException {
        TicketChain x = new TicketChain();
        x.ticket(0, 0, 0, 1, 0, 0);
        x.ticket(3, 2, 300, 100, 90000, 5);
        Due.is("correct", x.correct(0, 6, 7777777777L, 998), 1);
        rowIs(x, 1, correctionHead(1, 6, 7777777777L, 998), digestOf(bytesOf(x, 0)));
        Due.is("the row that there is stays", x.byteAt(0, 36), 90000 & 255);
    }

    private static void promise5RowOfVoid() throws NoSuchAlgorithmException {
        TicketChain x = new TicketChain();
        x.ticket(0, 0, 0, 1, 0, 0);
        x.ticket(3, 2, 300, 100, 90000, 5);
        Due.is("voids", x.voids(0, 42), 1);
        rowIs(x, 1, voidHead(1, 42), digestOf(bytesOf(x, 0)));
    }

    private static void promise14Poke() {
        TicketChain x = new TicketChain();
        x.ticket(0, 0, 0, 0, 0, 0);
        Due.is("byte 0", x.poke(0, 0, 1), true);
        Due.is("byte 0 is", x.byteAt(0, 0), 0);
        Due.is("byte 0 again", x.poke(0, 0, 255), true);
        Due.is("byte 0 is", x.byteAt(0, 0), 255);
        int last = x.byteAt(0, 72);
        Due.is("byte 72", x.poke(0, 72, 129), true);
        Due.is("byte 72 is", x.byteAt(0, 72), last ^ 129);
        Due.is("byte 73", x.poke(0, 73, 1), false);
        Due.is("byte -1", x.poke(0, -1, 1), false);
        Due.is("byte MIN", x.poke(0, Integer.MIN_VALUE, 1), false);
        Due.is("mask 0", x.poke(0, 5, 0), false);
        Due.is("mask 256", x.poke(0, 5, 256), false);
        Due.is("mask -1", x.poke(0, 5, -1), false);
        Due.is("row 1", x.poke(1, 0, 1), false);
        Due.is("row -1", x.poke(-1, 0, 1), false);
        Due.is("byte 5 stays", x.byteAt(0, 5), 0);
    }

    private static void promise14OnlyBytes() {
        TicketChain x = new TicketChain();
        x.ticket(9, 8, 700, 100, 86400, 6);
        for (int i = 0; i < 73; i++) {
            x.poke(0, i, 255);
        }
        long[] due = {0, 9, 8, 700, 100, 600, 86400, 6, 0};
        for (int field = 0; field < due.length; field++) {
            Due.is("poked: at(0, " + field + ")", x.at(0, field), due[field]);
        }
        Due.is("the day stays", x.root(1, 0), x.digest(0, 0));
        Due.is("correct", x.correct(0, 2, 1, 0), 1);
        Due.is("the number in the new row", x.byteAt(1, 4), 0);
        Due.is("the new row fits the digest as it was then", x.check(1), 0);
        Due.is("the old row doesn't", x.check(0), 1);
    }

    private static void promise15ByteAt() {
        TicketChain x = new TicketChain();
        Due.noByte(x, 0, 0);
        x.ticket(0, 0, 200, 0, 0, 0);
        Due.is("byte 0", x.byteAt(0, 0), 1);
        Due.is("a byte above 127", x.byteAt(0, 20), 200);
        Due.is("byte 40", x.byteAt(0, 40), 0);
        Due.is("byte 72", x.byteAt(0, 72), x.digest(0, 31));
        Due.noByte(x, 0, 73);
        Due.noByte(x, 0, -1);
        Due.noByte(x, 1, 0);
        Due.noByte(x, -1, 0);
        Due.noByte(x, Integer.MAX_VALUE, Integer.MAX_VALUE);
        Due.noByte(x, Integer.MIN_VALUE, Integer.MIN_VALUE);
        Due.is("nothing changed", x.check(0), 0);
    }

    private static void promise16Digest() throws NoSuchAlgorithmException {
        TicketChain x = new TicketChain();
        x.ticket(4, 5, 600, 70, 8, 9);
        byte[] due = sum(new byte[32], ticketHead(0, 4, 5, 600, 70, 8, 9));
        for (int i = 0; i < 32; i++) {
            Due.is("digest(0, " + i + ")", x.digest(0, i), due[i] & 255);
        }
        Due.is("byte 32", x.digest(0, 32), NONE);
        Due.is("byte -1", x.digest(0, -1), NONE);
        Due.is("byte -41", x.digest(0, -41), NONE);
        Due.is("byte MAX", x.digest(0, Integer.MAX_VALUE), NONE);
        Due.is("row 1", x.digest(1, 0), NONE);
        Due.is("row -1", x.digest(-1, 0), NONE);
        x.poke(0, 41, 15);
        Due.is("poked", x.digest(0, 0), (due[0] ^ 15) & 255);
        x.poke(0, 8, 15);
        Due.is("no digest is made anew", x.digest(0, 1), due[1] & 255);
    }

    private static void promise16PokedBefore() throws NoSuchAlgorithmException {
        TicketChain x = new TicketChain();
        x.ticket(0, 0, 5, 5, 0, 0);
        x.poke(0, 60, 77);
        x.poke(0, 3, 77);
        byte[] before = digestOf(bytesOf(x, 0));
        x.voids(0, 9);
        rowIs(x, 1, voidHead(0, 9), before);
    }

    private static void promise17Check() {
        TicketChain x = new TicketChain();
        Due.is("no rows, check(0)", x.check(0), 0);
        Due.is("no rows, check(1)", x.check(1), NONE);
        for (int k = 0; k < 5; k++) {
            x.ticket(k, 0, 5, 5, 0, 0);
        }
        for (int from = 0; from <= 5; from++) {
            Due.is("nobody poked, check(" + from + ")", x.check(from), 0);
        }
        Due.is("check(6)", x.check(6), NONE);
        Due.is("check(-1)", x.check(-1), NONE);
        Due.is("check(MAX)", x.check(Integer.MAX_VALUE), NONE);
        Due.is("check(MIN)", x.check(Integer.MIN_VALUE), NONE);
        for (int i = 0; i < 41; i++) {
            x.poke(2, i, 1 << i % 8);
            Due.is("byte " + i + " of row 2, check(0)", x.check(0), 3);
            Due.is("byte " + i + " of row 2, check(3)", x.check(3), 0);
            x.poke(2, i, 1 << i % 8);
        }
        Due.is("poked back", x.check(0), 0);
        for (int i = 41; i < 73; i++) {
            x.poke(2, i, 1 << i % 8);
            Due.is("byte " + i + " of row 2, check(0)", x.check(0), 3);
            Due.is("byte " + i + " of row 2, check(3)", x.check(3), 4);
            Due.is("byte " + i + " of row 2, check(4)", x.check(4), 0);
            x.poke(2, i, 1 << i % 8);
        }
        Due.is("poked back", x.check(0), 0);
    }

    private static void promise17CheckFromOneOn() {
        TicketChain x = new TicketChain();
        for (int k = 0; k < 3; k++) {
            x.ticket(k, 0, 5, 5, 0, 0);
        }
        x.poke(0, 10, 1);
        x.poke(2, 10, 1);
        Due.is("the first row, check(0)", x.check(0), 1);
        Due.is("the first from 1 on", x.check(1), 3);
        Due.is("the last row", x.check(2), 3);
        Due.is("behind the last row", x.check(3), 0);
        x.poke(0, 10, 1);
        x.poke(2, 10, 1);
        x.poke(2, 72, 1);
        Due.is("the last row's digest", x.check(0), 3);
        x.voids(0, 1);
        Due.is("a row behind a poked one", x.check(3), 0);
        x.poke(2, 72, 1);
        Due.is("a row behind one that was poked back", x.check(0), 4);
    }

    private static void promise18RootOfCounts() throws NoSuchAlgorithmException {
        for (int count : new int[] {1, 2, 3, 4, 5, 6, 7, 8, 9, 11, 13, 31, 33, 100, 199, 200}) {
            TicketChain x = new TicketChain();
            List<byte[]> digests = new ArrayList<>();
            byte[] before = new byte[32];
            for (int k = 0; k < count; k++) {
                x.ticket(k % 100, k % 10, k, 0, 86400L * 3 + k, k);
                before = sum(before, ticketHead(k, k % 100, k % 10, k, 0, 86400L * 3 + k, k));
                digests.add(before);
            }
            rootIs(count + " rows", x, 3, rootOf(digests));
            Due.is("another day", x.root(4, 0), NONE);
            Due.is("asking for it changes nothing", x.check(0), 0);
        }
    }

    private static void promise18Days() throws NoSuchAlgorithmException {
        TicketChain x = new TicketChain();
        x.ticket(0, 0, 5, 0, 86399, 0);
        x.ticket(0, 0, 5, 0, 86400, 0);
        x.ticket(0, 0, 5, 0, 8000000000L, 0);
        x.correct(0, 2, 1, 0);
        x.correct(0, 6, 86400, 0);
        x.voids(0, 1);
        List<byte[]> digests = new ArrayList<>();
        for (int row = 0; row < 3; row++) {
            byte[] digest = new byte[32];
            for (int i = 0; i < 32; i++) {
                digest[i] = (byte) x.digest(row, i);
            }
            digests.add(digest);
        }
        byte[] third = sum(digests.get(2), correctionHead(0, 2, 1, 0));
        byte[] fourth = sum(third, correctionHead(0, 6, 86400, 0));
        byte[] fifth = sum(fourth, voidHead(0, 1));
        rootIs("rows before the second became another", x, 0, rootOf(List.of(digests.get(0), third)));
        rootIs("rows from then on", x, 1, rootOf(List.of(digests.get(1), fourth, fifth)));
        rootIs("the last day of a second", x, 92592, digests.get(2));
    }

    private static void promise18Poked() throws NoSuchAlgorithmException {
        TicketChain x = new TicketChain();
        x.ticket(0, 0, 5, 0, 0, 0);
        x.ticket(0, 0, 5, 0, 0, 0);
        byte[] first = digestOf(bytesOf(x, 0));
        byte[] second = digestOf(bytesOf(x, 1));
        x.poke(0, 36, 255);
        x.poke(0, 33, 255);
        rootIs("another byte than the digests'", x, 0, sum(first, second));
        x.poke(0, 50, 3);
        first[9] ^= 3;
        rootIs("the digest as it is now", x, 0, sum(first, second));
    }

    private static void promise18NoSuch() {
        TicketChain x = new TicketChain();
        Due.is("no rows", x.root(0, 0), NONE);
        x.ticket(0, 0, 5, 0, 86400, 0);
        Due.is("byte -1", x.root(1, -1), NONE);
        Due.is("byte 32", x.root(1, 32), NONE);
        Due.is("byte MAX", x.root(1, Integer.MAX_VALUE), NONE);
        Due.is("byte MIN", x.root(1, Integer.MIN_VALUE), NONE);
        Due.is("day 0", x.root(0, 0), NONE);
        Due.is("day 2", x.root(2, 0), NONE);
        Due.is("day -1", x.root(-1, 0), NONE);
        Due.is("day MIN", x.root(Integer.MIN_VALUE, 0), NONE);
        Due.is("day MAX", x.root(Integer.MAX_VALUE, 0), NONE);
        x.correct(0, 6, 0, 0);
        Due.is("the day is the ticket's no more, but a row's", x.root(1, 31), x.digest(0, 31));
    }
}
