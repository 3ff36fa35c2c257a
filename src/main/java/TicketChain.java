import java.util.ArrayList;

/** Tickets of a weighbridge, each event a row that is chained to the one before it by a digest. */
public final class TicketChain {
    public static final int NONE = -1;
    public static final int SPOILED = -2;

    private static final int ROWS_AT_MOST = 200;
    private static final int NUMBERS_AT_MOST = 400;
    // An object is used for 512 calls, so it is told no more tares than that.
    private static final int TARES_AT_MOST = 512;
    private static final int LAST_DAY = 100000;
    private static final int LAST_REASON = 99;
    private static final int CUSTOMERS = 8;
    private static final long HEAVIEST_WEIGHT = 1000000L;
    private static final long SECONDS_OF_DAY = 86400L;
    private static final long VEHICLES_TARE = -1L;

    private static final int NUMBER = 0;
    private static final int VEHICLE = 1;
    private static final int KIND = 2;
    private static final int GROSS = 3;
    private static final int TARE = 4;
    private static final int NET = 5;
    private static final int SECOND = 6;
    private static final int PERSON = 7;
    private static final int REASON = 8;
    private static final int FIELDS = 9;

    private static final int TICKET_ROW = 1;
    private static final int CORRECTION_ROW = 2;
    private static final int VOID_ROW = 3;
    private static final int DIGEST_BYTES = 32;
    private static final int HEAD_BYTES = 41;
    private static final int ROW_BYTES = HEAD_BYTES + DIGEST_BYTES;

    // The longest form: 47 digits of fields, 7 blanks between them, the mark's 6 signs, 2 digits of a reason.
    private static final int FORM_BYTES = 62;
    // No field has more than ten digits, for none is above 8000000000.
    private static final long HIGHEST_UNIT = 1000000000L;
    private static final String VOID_MARK = " VOID ";

    private static final int[] SQUARE_ROOTS = {
        0x6a09e667, 0xbb67ae85, 0x3c6ef372, 0xa54ff53a, 0x510e527f, 0x9b05688c, 0x1f83d9ab, 0x5be0cd19
    };
    private static final int[] CUBE_ROOTS = {
        0x428a2f98, 0x71374491, 0xb5c0fbcf, 0xe9b5dba5, 0x3956c25b, 0x59f111f1, 0x923f82a4, 0xab1c5ed5,
        0xd807aa98, 0x12835b01, 0x243185be, 0x550c7dc3, 0x72be5d74, 0x80deb1fe, 0x9bdc06a7, 0xc19bf174,
        0xe49b69c1, 0xefbe4786, 0x0fc19dc6, 0x240ca1cc, 0x2de92c6f, 0x4a7484aa, 0x5cb0a9dc, 0x76f988da,
        0x983e5152, 0xa831c66d, 0xb00327c8, 0xbf597fc7, 0xc6e00bf3, 0xd5a79147, 0x06ca6351, 0x14292967,
        0x27b70a85, 0x2e1b2138, 0x4d2c6dfc, 0x53380d13, 0x650a7354, 0x766a0abb, 0x81c2c92e, 0x92722c85,
        0xa2bfe8a1, 0xa81a664b, 0xc24b8b70, 0xc76c51a3, 0xd192e819, 0xd6990624, 0xf40e3585, 0x106aa070,
        0x19a4c116, 0x1e376c08, 0x2748774c, 0x34b0bcb5, 0x391c0cb3, 0x4ed8aa4a, 0x5b9cca4f, 0x682e6ff3,
        0x748f82ee, 0x78a5636f, 0x84c87814, 0x8cc70208, 0x90befffa, 0xa4506ceb, 0xbef9a3f7, 0xc67178f2
    };

    private final TareBook tares = new TareBook();
    private final ArrayList<Ticket> tickets = new ArrayList<>();
    private final int[] spoiled = new int[NUMBERS_AT_MOST];
    private int spoiledCount = 0;
    private int numbersUsed = 0;
    private final Chain chain = new Chain();
    private final Form form = new Form();

    public TicketChain() {
    }

    public boolean follows(int day, int vehicle, long tare) {
        if (day < 0 || day > LAST_DAY || !fits(VEHICLE, vehicle) || !fits(TARE, tare)) {
            return false;
        }
        return tares.tell(day, vehicle, tare);
    }

    public int ticket(int vehicle, int kind, long gross, long tare, long second, int person) {
        if (!fits(VEHICLE, vehicle) || !fits(KIND, kind) || !fits(GROSS, gross)
                || !fits(SECOND, second) || !fits(PERSON, person)) {
            return NONE;
        }
        long taken = tare == VEHICLES_TARE ? tares.tareOn(dayOf(second), vehicle) : tare;
        if (!fits(TARE, taken) || chain.isFull() || numbersUsed >= NUMBERS_AT_MOST) {
            return NONE;
        }
        if (gross < taken) {
            return spoilNumber();
        }
        Ticket made = new Ticket(numbersUsed, vehicle, kind, gross, taken, second, person);
        numbersUsed++;
        tickets.add(made);
        chain.append(ticketRow(made));
        return tickets.size() - 1;
    }

    public int correct(int ticket, int field, long v, int person) {
        Ticket found = find(ticket);
        if (found == null || !fits(field, v) || !fits(PERSON, person)) {
            return NONE;
        }
        if (found.isVoid() || !found.keepsNet(field, v) || chain.isFull()) {
            return NONE;
        }
        found.put(field, v);
        return chain.append(correctionRow(found, field, v, person));
    }

    public int voids(int ticket, int reason) {
        Ticket found = find(ticket);
        if (found == null || reason < 1 || reason > LAST_REASON || found.isVoid() || chain.isFull()) {
            return NONE;
        }
        found.put(REASON, reason);
        return chain.append(voidRow(found, reason));
    }

    public long at(int ticket, int field) {
        Ticket found = find(ticket);
        return found == null ? NONE : found.field(field);
    }

    public int number(int ticket) {
        Ticket found = find(ticket);
        return found == null ? NONE : (int) found.field(NUMBER);
    }

    public int gap(int k) {
        return k >= 0 && k < spoiledCount && k < spoiled.length ? spoiled[k] : NONE;
    }

    public int rows() {
        return chain.count();
    }

    public int made() {
        return numbersUsed;
    }

    public boolean split(int ticket, int customer, long weight) {
        Ticket found = find(ticket);
        if (found == null || weight < 0 || weight > HEAVIEST_WEIGHT) {
            return false;
        }
        return found.weigh(customer, weight);
    }

    public long share(int ticket, int customer) {
        Ticket found = find(ticket);
        return found == null ? NONE : found.shareOf(customer);
    }

    public int print(int ticket, int i) {
        Ticket found = find(ticket);
        if (found == null) {
            return NONE;
        }
        form.fill(found);
        return form.sign(i);
    }

    public boolean poke(int row, int i, int mask) {
        Row found = chain.find(row);
        if (found == null || mask < 1 || mask > 255) {
            return false;
        }
        return found.change(i, mask);
    }

    public int byteAt(int row, int i) throws ArrayIndexOutOfBoundsException {
        Row found = chain.find(row);
        if (found == null || !found.has(i)) {
            throw new ArrayIndexOutOfBoundsException("no such byte of a row");
        }
        return found.value(i);
    }

    public int digest(int row, int i) {
        Row found = chain.find(row);
        if (found == null || i < 0 || i >= DIGEST_BYTES) {
            return NONE;
        }
        return found.value(HEAD_BYTES + i);
    }

    public int check(int from) {
        if (from < 0 || from > chain.count()) {
            return NONE;
        }
        int broken = chain.firstBroken(from);
        return broken == NONE ? 0 : 1 + broken;
    }

    public int root(int day, int i) {
        return chain.rootByte(day, i);
    }

    private Ticket find(int ticket) {
        return ticket >= 0 && ticket < tickets.size() ? tickets.get(ticket) : null;
    }

    private int spoilNumber() {
        if (spoiledCount < spoiled.length) {
            spoiled[spoiledCount] = numbersUsed;
            spoiledCount++;
        }
        numbersUsed++;
        return SPOILED;
    }

    /** Whether a field that can be told may be v; false for every field that can't be told. */
    private static boolean fits(int field, long v) {
        return v >= 0 && v <= greatest(field);
    }

    private static long greatest(int field) {
        switch (field) {
            case VEHICLE:
                return 99L;
            case KIND:
                return 9L;
            case GROSS:
            case TARE:
                return 1000000000L;
            case SECOND:
                return 8000000000L;
            case PERSON:
                return 999L;
            default:
                return NONE;
        }
    }

    private static int dayOf(long second) {
        return (int) (second / SECONDS_OF_DAY);
    }

    private static Row ticketRow(Ticket ticket) {
        Row row = new Row(dayOf(ticket.field(SECOND)));
        row.write(TICKET_ROW, 1);
        row.write(ticket.field(NUMBER), 4);
        row.write(ticket.field(VEHICLE), 4);
        row.write(ticket.field(KIND), 4);
        row.write(ticket.field(GROSS), 8);
        row.write(ticket.field(TARE), 8);
        row.write(ticket.field(SECOND), 8);
        row.write(ticket.field(PERSON), 4);
        return row;
    }

    private static Row correctionRow(Ticket ticket, int field, long v, int person) {
        Row row = new Row(dayOf(ticket.field(SECOND)));
        row.write(CORRECTION_ROW, 1);
        row.write(ticket.field(NUMBER), 4);
        row.write(field, 4);
        row.write(v, 8);
        row.write(person, 4);
        return row;
    }

    private static Row voidRow(Ticket ticket, int reason) {
        Row row = new Row(dayOf(ticket.field(SECOND)));
        row.write(VOID_ROW, 1);
        row.write(ticket.field(NUMBER), 4);
        row.write(reason, 4);
        return row;
    }

    /** The tare that a vehicle has from a day on. */
    private static final class Tare {
        private final int day;
        private final int vehicle;
        private long weight;

        Tare(int day, int vehicle, long weight) {
            this.day = day;
            this.vehicle = vehicle;
            this.weight = weight;
        }
    }

    /** What is known of the vehicles' tares. */
    private static final class TareBook {
        private final ArrayList<Tare> told = new ArrayList<>();

        boolean tell(int day, int vehicle, long weight) {
            Tare last = lastUpTo(day, vehicle);
            if (last != null && last.day == day) {
                last.weight = weight;
                return true;
            }
            if (told.size() >= TARES_AT_MOST) {
                return false;
            }
            told.add(new Tare(day, vehicle, weight));
            return true;
        }

        long tareOn(int day, int vehicle) {
            Tare last = lastUpTo(day, vehicle);
            return last == null ? NONE : last.weight;
        }

        private Tare lastUpTo(int day, int vehicle) {
            Tare last = null;
            for (int k = 0; k < told.size(); k++) {
                Tare tare = told.get(k);
                if (tare.vehicle == vehicle && tare.day <= day && (last == null || tare.day > last.day)) {
                    last = tare;
                }
            }
            return last;
        }
    }

    /** A ticket's fields as they are told now, and the customers' weights of its load. */
    private static final class Ticket {
        private final long[] fields = new long[FIELDS];
        private final long[] weights = new long[CUSTOMERS];

        Ticket(int number, int vehicle, int kind, long gross, long tare, long second, int person) {
            fields[NUMBER] = number;
            fields[VEHICLE] = vehicle;
            fields[KIND] = kind;
            fields[GROSS] = gross;
            fields[TARE] = tare;
            fields[NET] = gross - tare;
            fields[SECOND] = second;
            fields[PERSON] = person;
        }

        long field(int field) {
            return field >= 0 && field < fields.length ? fields[field] : NONE;
        }

        boolean isVoid() {
            return fields[REASON] != 0;
        }

        boolean keepsNet(int field, long v) {
            long gross = field == GROSS ? v : fields[GROSS];
            long tare = field == TARE ? v : fields[TARE];
            return gross >= tare;
        }

        void put(int field, long v) {
            if (field >= 0 && field < fields.length) {
                fields[field] = v;
                fields[NET] = fields[GROSS] - fields[TARE];
            }
        }

        boolean weigh(int customer, long weight) {
            if (customer < 0 || customer >= weights.length) {
                return false;
            }
            weights[customer] = weight;
            return true;
        }

        long shareOf(int customer) {
            long total = totalWeight();
            if (customer < 0 || customer >= weights.length || total <= 0) {
                return NONE;
            }
            long net = isVoid() ? 0 : fields[NET];
            long left = net;
            int before = 0;
            long ownRest = net * weights[customer] % total;
            for (int other = 0; other < weights.length; other++) {
                left -= net * weights[other] / total;
                long rest = net * weights[other] % total;
                if (rest > ownRest || rest == ownRest && other < customer) {
                    before++;
                }
            }
            long down = net * weights[customer] / total;
            return before < left ? down + 1 : down;
        }

        private long totalWeight() {
            long total = 0;
            for (long weight : weights) {
                total += weight;
            }
            return total;
        }
    }

    /** The printed form of one ticket at a time. */
    private static final class Form {
        private final byte[] signs = new byte[FORM_BYTES];
        private int length = 0;

        void fill(Ticket ticket) {
            length = 0;
            for (int field = NUMBER; field <= PERSON; field++) {
                if (field > NUMBER) {
                    add(' ');
                }
                addDecimals(ticket.field(field));
            }
            if (ticket.isVoid()) {
                for (int k = 0; k < VOID_MARK.length(); k++) {
                    add(VOID_MARK.charAt(k));
                }
                addDecimals(ticket.field(REASON));
            }
        }

        int sign(int i) {
            return i >= 0 && i < length && i < signs.length ? signs[i] : NONE;
        }

        private void add(char sign) {
            if (length < signs.length) {
                signs[length] = (byte) sign;
                length++;
            }
        }

        private void addDecimals(long value) {
            boolean begun = false;
            for (long unit = HIGHEST_UNIT; unit > 0; unit /= 10) {
                int digit = (int) (value / unit % 10);
                begun = begun || digit > 0 || unit == 1;
                if (begun) {
                    add((char) ('0' + digit));
                }
            }
        }
    }

    /** A row's bytes, and the day that it is of, which no poking changes. */
    private static final class Row {
        private final byte[] bytes = new byte[ROW_BYTES];
        private final int day;
        private int written = 0;

        Row(int day) {
            this.day = day;
        }

        void write(long value, int width) {
            for (int k = width - 1; k >= 0; k--) {
                if (written < HEAD_BYTES) {
                    bytes[written] = (byte) (value >>> (8 * k));
                    written++;
                }
            }
        }

        boolean has(int i) {
            return i >= 0 && i < bytes.length;
        }

        int value(int i) {
            return has(i) ? bytes[i] & 255 : NONE;
        }

        boolean change(int i, int mask) {
            if (!has(i)) {
                return false;
            }
            bytes[i] = (byte) (bytes[i] ^ mask);
            return true;
        }
    }

    /** The rows in their order, and the sums over them. */
    private static final class Chain {
        private final ArrayList<Row> rows = new ArrayList<>();
        private final Sum sum = new Sum();
        private final byte[] level = new byte[ROWS_AT_MOST * DIGEST_BYTES];

        int count() {
            return rows.size();
        }

        boolean isFull() {
            return rows.size() >= ROWS_AT_MOST;
        }

        Row find(int row) {
            return row >= 0 && row < rows.size() ? rows.get(row) : null;
        }

        int append(Row row) {
            sumRow(find(rows.size() - 1), row);
            sum.copyTo(row.bytes, HEAD_BYTES);
            rows.add(row);
            return rows.size() - 1;
        }

        /** The first row from one on whose digest is not what it would be; NONE when there is none. */
        int firstBroken(int from) {
            for (int k = from; k < rows.size(); k++) {
                Row row = find(k);
                if (row != null) {
                    sumRow(find(k - 1), row);
                    if (!sum.isAt(row.bytes, HEAD_BYTES)) {
                        return k;
                    }
                }
            }
            return NONE;
        }

        int rootByte(int day, int i) {
            if (i < 0 || i >= DIGEST_BYTES) {
                return NONE;
            }
            int digests = gather(day);
            if (digests == 0) {
                return NONE;
            }
            for (int left = digests; left > 1; left = (left + 1) / 2) {
                pairUp(left);
            }
            return level[i] & 255;
        }

        private void sumRow(Row previous, Row row) {
            sum.start();
            if (previous == null) {
                sum.addZeros(DIGEST_BYTES);
            } else {
                sum.add(previous.bytes, HEAD_BYTES, DIGEST_BYTES);
            }
            sum.add(row.bytes, 0, HEAD_BYTES);
            sum.finish();
        }

        private int gather(int day) {
            int found = 0;
            for (int k = 0; k < rows.size(); k++) {
                Row row = rows.get(k);
                if (row.day == day && found < ROWS_AT_MOST) {
                    System.arraycopy(row.bytes, HEAD_BYTES, level, found * DIGEST_BYTES, DIGEST_BYTES);
                    found++;
                }
            }
            return found;
        }

        /** Lays the sums of each two digests over the places that were read before. */
        private void pairUp(int digests) {
            for (int k = 0; k < digests; k += 2) {
                int from = k * DIGEST_BYTES;
                int to = k / 2 * DIGEST_BYTES;
                if (k + 1 < digests) {
                    sum.start();
                    sum.add(level, from, 2 * DIGEST_BYTES);
                    sum.finish();
                    sum.copyTo(level, to);
                } else {
                    System.arraycopy(level, from, level, to, DIGEST_BYTES);
                }
            }
        }
    }

    /** The sum of a row of bytes: start, add, finish, and then the 32 bytes of the sum. */
    private static final class Sum {
        private static final int BLOCK_BYTES = 64;
        private static final int LENGTH_BYTES = 8;
        private static final int BLOCK_WORDS = 16;
        private static final int ROUNDS = 64;
        private static final int STATE_WORDS = 8;
        // A row's 32 and 41 bytes are the longest that is summed: with what comes behind, two blocks.
        private static final int MESSAGE_BYTES = 2 * BLOCK_BYTES;

        private final byte[] message = new byte[MESSAGE_BYTES];
        private final int[] words = new int[ROUNDS];
        private final int[] state = new int[STATE_WORDS];
        private int filled = 0;

        void start() {
            filled = 0;
        }

        void add(byte[] bytes, int from, int count) {
            for (int k = 0; k < count; k++) {
                int i = from + k;
                if (i >= 0 && i < bytes.length) {
                    addByte(bytes[i]);
                }
            }
        }

        void addZeros(int count) {
            for (int k = 0; k < count; k++) {
                addByte(0);
            }
        }

        void finish() {
            long bits = 8L * filled;
            addByte(128);
            for (int k = 0; k < BLOCK_BYTES && filled % BLOCK_BYTES != BLOCK_BYTES - LENGTH_BYTES; k++) {
                addByte(0);
            }
            for (int k = LENGTH_BYTES - 1; k >= 0; k--) {
                addByte((int) (bits >>> (8 * k)));
            }
            System.arraycopy(SQUARE_ROOTS, 0, state, 0, STATE_WORDS);
            for (int block = 0; block + BLOCK_BYTES <= filled; block += BLOCK_BYTES) {
                readWords(block);
                mixWords();
            }
        }

        void copyTo(byte[] bytes, int from) {
            for (int k = 0; k < DIGEST_BYTES; k++) {
                int i = from + k;
                if (i >= 0 && i < bytes.length) {
                    bytes[i] = sumByte(k);
                }
            }
        }

        boolean isAt(byte[] bytes, int from) {
            for (int k = 0; k < DIGEST_BYTES; k++) {
                int i = from + k;
                if (i < 0 || i >= bytes.length || bytes[i] != sumByte(k)) {
                    return false;
                }
            }
            return true;
        }

        private byte sumByte(int k) {
            return (byte) (state[k / 4] >>> (24 - 8 * (k % 4)));
        }

        private void addByte(int value) {
            if (filled < message.length) {
                message[filled] = (byte) value;
                filled++;
            }
        }

        private void readWords(int block) {
            for (int t = 0; t < BLOCK_WORDS; t++) {
                int word = 0;
                for (int k = 0; k < 4; k++) {
                    word = word << 8 | message[block + 4 * t + k] & 255;
                }
                words[t] = word;
            }
            for (int t = BLOCK_WORDS; t < ROUNDS; t++) {
                words[t] = lateWord(words[t - 2]) + words[t - 7] + earlyWord(words[t - 15]) + words[t - 16];
            }
        }

        private void mixWords() {
            int a = state[0];
            int b = state[1];
            int c = state[2];
            int d = state[3];
            int e = state[4];
            int f = state[5];
            int g = state[6];
            int h = state[7];
            for (int t = 0; t < ROUNDS; t++) {
                int u = h + (turn(e, 6) ^ turn(e, 11) ^ turn(e, 25)) + (e & f ^ ~e & g) + CUBE_ROOTS[t] + words[t];
                int v = (turn(a, 2) ^ turn(a, 13) ^ turn(a, 22)) + (a & b ^ a & c ^ b & c);
                h = g;
                g = f;
                f = e;
                e = d + u;
                d = c;
                c = b;
                b = a;
                a = u + v;
            }
            state[0] += a;
            state[1] += b;
            state[2] += c;
            state[3] += d;
            state[4] += e;
            state[5] += f;
            state[6] += g;
            state[7] += h;
        }

        private static int earlyWord(int x) {
            return turn(x, 7) ^ turn(x, 18) ^ x >>> 3;
        }

        private static int lateWord(int x) {
            return turn(x, 17) ^ turn(x, 19) ^ x >>> 10;
        }

        private static int turn(int x, int places) {
            return x >>> places | x << (32 - places);
        }
    }
}
