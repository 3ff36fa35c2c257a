import java.math.BigInteger;
import java.nio.ByteBuffer;
import java.security.MessageDigest;
import java.security.NoSuchAlgorithmException;
import java.util.ArrayList;
import java.util.List;
import java.util.Map;
import java.util.Random;
import java.util.TreeMap;

/** Long runs of calls, answered by the class and by a second writing of the document with the Java library. */
public final class ModelTest {
    private static final int RUNS = 400;
    private static final int CALLS = 512;

    public static void main(String[] args) throws NoSuchAlgorithmException {
        for (int run = 0; run < RUNS; run++) {
            new Run(run).go();
        }
        Due.end();
    }

    /** The document once more, as shortly as the Java library lets it be written. */
    private static final class Model {
        final Map<Integer, TreeMap<Integer, Long>> tares = new TreeMap<>();
        final List<long[]> tickets = new ArrayList<>();
        final List<long[]> weights = new ArrayList<>();
        final List<Integer> gaps = new ArrayList<>();
        final List<byte[]> rows = new ArrayList<>();
        final List<Long> days = new ArrayList<>();
        int made = 0;

        static boolean fits(int field, long v) {
            long[] most = {-1, 99, 9, 1000000000L, 1000000000L, -1, 8000000000L, 999};
            return field >= 0 && field < most.length && v >= 0 && v <= most[field];
        }

        static byte[] sum(byte[] first, byte[] second) throws NoSuchAlgorithmException {
            MessageDigest digest = MessageDigest.getInstance("SHA-256");
            digest.update(first);
            digest.update(second);
            return digest.digest();
        }

        static byte[] part(byte[] row, int from, int count) {
            byte[] part = new byte[count];
            System.arraycopy(row, from, part, 0, count);
            return part;
        }

        byte[] dueDigest(int row, byte[] bytes) throws NoSuchAlgorithmException {
            byte[] before = row == 0 ? new byte[32] : part(rows.get(row - 1), 41, 32);
            return sum(before, part(bytes, 0, 41));
        }

        int addRow(ByteBuffer head, long[] ticket) throws NoSuchAlgorithmException {
            byte[] bytes = head.array();
            System.arraycopy(dueDigest(rows.size(), bytes), 0, bytes, 41, 32);
            rows.add(bytes);
            days.add(Math.floorDiv(ticket[6], 86400L));
            return rows.size() - 1;
        }

        ByteBuffer head(int sort, long number) {
            return ByteBuffer.allocate(73).put((byte) sort).putInt((int) number);
        }

        boolean isTicket(int ticket) {
            return ticket >= 0 && ticket < tickets.size();
        }

        long follows(int day, int vehicle, long tare) {
            if (day < 0 || day > 100000 || !fits(1, vehicle) || !fits(4, tare)) {
                return 0;
            }
            tares.computeIfAbsent(vehicle, k -> new TreeMap<>()).put(day, tare);
            return 1;
        }

        long ticket(int vehicle, int kind, long gross, long tare, long second, int person)
                throws NoSuchAlgorithmException {
            if (!fits(1, vehicle) || !fits(2, kind) || !fits(3, gross) || !fits(6, second) || !fits(7, person)) {
                return -1;
            }
            if (tare == -1) {
                TreeMap<Integer, Long> known = tares.getOrDefault(vehicle, new TreeMap<>());
                Map.Entry<Integer, Long> entry = known.floorEntry((int) (second / 86400));
                tare = entry == null ? -1 : entry.getValue();
            }
            if (!fits(4, tare) || rows.size() == 200 || made == 400) {
                return -1;
            }
            made++;
            if (gross < tare) {
                gaps.add(made - 1);
                return -2;
            }
            long[] fields = {made - 1, vehicle, kind, gross, tare, gross - tare, second, person, 0};
            tickets.add(fields);
            weights.add(new long[8]);
            addRow(head(1, made - 1).putInt(vehicle).putInt(kind).putLong(gross).putLong(tare).putLong(second)
                .putInt(person), fields);
            return tickets.size() - 1;
        }

        long correct(int ticket, int field, long v, int person) throws NoSuchAlgorithmException {
            if (!isTicket(ticket) || !fits(field, v) || !fits(7, person) || rows.size() == 200) {
                return -1;
            }
            long[] fields = tickets.get(ticket);
            long[] then = fields.clone();
            then[field] = v;
            then[5] = then[3] - then[4];
            if (fields[8] != 0 || then[5] < 0) {
                return -1;
            }
            tickets.set(ticket, then);
            return addRow(head(2, fields[0]).putInt(field).putLong(v).putInt(person), then);
        }

        long voids(int ticket, int reason) throws NoSuchAlgorithmException {
            if (!isTicket(ticket) || reason < 1 || reason > 99 || tickets.get(ticket)[8] != 0 || rows.size() == 200) {
                return -1;
            }
            tickets.get(ticket)[8] = reason;
            return addRow(head(3, tickets.get(ticket)[0]).putInt(reason), tickets.get(ticket));
        }

        long at(int ticket, int field) {
            return isTicket(ticket) && field >= 0 && field <= 8 ? tickets.get(ticket)[field] : -1;
        }

        long gap(int k) {
            return k >= 0 && k < gaps.size() ? gaps.get(k) : -1;
        }

        long split(int ticket, int customer, long weight) {
            if (!isTicket(ticket) || customer < 0 || customer > 7 || weight < 0 || weight > 1000000) {
                return 0;
            }
            weights.get(ticket)[customer] = weight;
            return 1;
        }

        long share(int ticket, int customer) {
            if (!isTicket(ticket) || customer < 0 || customer > 7) {
                return -1;
            }
            long total = 0;
            for (long weight : weights.get(ticket)) {
                total += weight;
            }
            if (total == 0) {
                return -1;
            }
            long[] fields = tickets.get(ticket);
            long left = fields[8] != 0 ? 0 : fields[5];
            BigInteger net = BigInteger.valueOf(left);
            long[] shares = new long[8];
            long[] rests = new long[8];
            for (int c = 0; c < 8; c++) {
                BigInteger[] parts = net.multiply(BigInteger.valueOf(weights.get(ticket)[c]))
                    .divideAndRemainder(BigInteger.valueOf(total));
                shares[c] = parts[0].longValue();
                rests[c] = parts[1].longValue();
                left -= shares[c];
            }
            for (; left > 0; left--) {
                int greatest = 0;
                for (int c = 1; c < 8; c++) {
                    greatest = rests[c] > rests[greatest] ? c : greatest;
                }
                shares[greatest]++;
                rests[greatest] = -1;
            }
            return shares[customer];
        }

        long print(int ticket, int i) {
            if (!isTicket(ticket)) {
                return -1;
            }
            long[] f = tickets.get(ticket);
            String form = f[0] + " " + f[1] + " " + f[2] + " " + f[3] + " " + f[4] + " " + f[5] + " " + f[6] + " "
                + f[7] + (f[8] != 0 ? " VOID " + f[8] : "");
            return i >= 0 && i < form.length() ? form.charAt(i) : -1;
        }

        long poke(int row, int i, int mask) {
            if (row < 0 || row >= rows.size() || i < 0 || i > 72 || mask < 1 || mask > 255) {
                return 0;
            }
            rows.get(row)[i] ^= (byte) mask;
            return 1;
        }

        /** -7 stands for the exception. */
        long byteAt(int row, int i) {
            return row < 0 || row >= rows.size() || i < 0 || i > 72 ? -7 : rows.get(row)[i] & 255;
        }

        long digest(int row, int i) {
            return row < 0 || row >= rows.size() || i < 0 || i > 31 ? -1 : rows.get(row)[41 + i] & 255;
        }

        long check(int from) throws NoSuchAlgorithmException {
            if (from < 0 || from > rows.size()) {
                return -1;
            }
            for (int k = from; k < rows.size(); k++) {
                if (!MessageDigest.isEqual(dueDigest(k, rows.get(k)), part(rows.get(k), 41, 32))) {
                    return k + 1;
                }
            }
            return 0;
        }

        long root(int day, int i) throws NoSuchAlgorithmException {
            List<byte[]> level = new ArrayList<>();
            for (int k = 0; k < rows.size(); k++) {
                if (days.get(k) == day) {
                    level.add(part(rows.get(k), 41, 32));
                }
            }
            if (level.isEmpty() || i < 0 || i > 31) {
                return -1;
            }
            while (level.size() > 1) {
                List<byte[]> above = new ArrayList<>();
                for (int k = 0; k + 1 < level.size(); k += 2) {
                    above.add(sum(level.get(k), level.get(k + 1)));
                }
                if (level.size() % 2 == 1) {
                    above.add(level.get(level.size() - 1));
                }
                level = above;
            }
            return level.get(0)[i] & 255;
        }
    }

    /** One object's calls; how its arguments are drawn hangs on the run's number. */
    private static final class Run {
        private static final long[] ODD = {
            -1, 0, 1, -2, Integer.MAX_VALUE, Integer.MIN_VALUE, Long.MAX_VALUE, Long.MIN_VALUE, 1L << 32, 8000000001L
        };
        final int run;
        final Random random;
        final TicketChain x = new TicketChain();
        final Model model = new Model();
        final int makes;
        final boolean wild;
        int calls = 0;

        Run(int run) {
            this.run = run;
            random = new Random(run);
            makes = new int[] {8, 30, 60, 90}[run % 4];
            wild = run % 3 == 0;
        }

        void go() throws NoSuchAlgorithmException {
            // A turn makes ten calls at most.
            while (calls <= CALLS - 10) {
                if (random.nextInt(100) < makes) {
                    make();
                } else {
                    ask(random.nextInt(17));
                }
            }
        }

        /** Mostly 0 .. most, seldom just outside it or anything. */
        long some(long most) {
            int draw = random.nextInt(wild ? 20 : 200);
            if (draw == 0) {
                return ODD[random.nextInt(ODD.length)];
            }
            if (draw == 1) {
                return most + 1;
            }
            if (draw < 6) {
                return random.nextBoolean() ? most : 0;
            }
            long small = random.nextBoolean() ? most : Math.min(most, 30);
            return Math.floorMod(random.nextLong(), small + 1);
        }

        int small(long most) {
            return (int) some(most);
        }

        int aTicket() {
            return small(Math.max(0, model.tickets.size() - 1));
        }

        int aRow() {
            return small(Math.max(0, model.rows.size() - 1));
        }

        long second() {
            return random.nextInt(4) == 0 ? some(8000000000L) : random.nextInt(5) * 86400L - random.nextInt(2);
        }

        void make() throws NoSuchAlgorithmException {
            int vehicle = random.nextBoolean() ? random.nextInt(3) : small(99);
            int kind = small(9);
            long gross = some(1000000000L);
            long tare = random.nextInt(3) == 0 ? -1 : random.nextInt(3) == 0 ? some(1000000000L) : some(40);
            long second = second();
            int person = small(999);
            same("ticket", x.ticket(vehicle, kind, gross, tare, second, person),
                model.ticket(vehicle, kind, gross, tare, second, person));
        }

        void ask(int sort) throws NoSuchAlgorithmException {
            switch (sort) {
                case 0 -> follows();
                case 1 -> correct();
                case 2 -> voids();
                case 3 -> at();
                case 4 -> number();
                case 5 -> gap();
                case 6 -> same("rows", x.rows(), model.rows.size());
                case 7 -> same("made", x.made(), model.made);
                case 8, 9 -> split();
                case 10 -> share();
                case 11 -> print();
                case 12 -> poke();
                case 13 -> byteAt();
                case 14 -> digest();
                case 15 -> check();
                default -> root();
            }
        }

        void follows() {
            int day = random.nextBoolean() ? random.nextInt(5) : small(100000);
            int vehicle = random.nextBoolean() ? random.nextInt(3) : small(99);
            long tare = some(random.nextBoolean() ? 50 : 1000000000L);
            same("follows", x.follows(day, vehicle, tare) ? 1 : 0, model.follows(day, vehicle, tare));
        }

        void correct() throws NoSuchAlgorithmException {
            int ticket = aTicket();
            int field = small(8);
            long v = field == 6 ? second() : some(new long[] {5, 99, 9, 1000000000L, 1000000000L}[random.nextInt(5)]);
            int person = small(999);
            same("correct", x.correct(ticket, field, v, person), model.correct(ticket, field, v, person));
        }

        void voids() throws NoSuchAlgorithmException {
            int ticket = aTicket();
            int reason = small(99);
            same("voids", x.voids(ticket, reason), model.voids(ticket, reason));
        }

        void at() {
            int ticket = aTicket();
            int field = small(8);
            same("at", x.at(ticket, field), model.at(ticket, field));
        }

        void number() {
            int ticket = aTicket();
            same("number", x.number(ticket), model.at(ticket, 0));
        }

        void gap() {
            int k = small(model.gaps.size());
            same("gap", x.gap(k), model.gap(k));
        }

        void split() {
            int ticket = random.nextBoolean() ? random.nextInt(3) : aTicket();
            int customer = small(7);
            long weight = some(random.nextBoolean() ? 3 : 1000000);
            same("split", x.split(ticket, customer, weight) ? 1 : 0, model.split(ticket, customer, weight));
        }

        void share() {
            int ticket = random.nextBoolean() ? random.nextInt(3) : aTicket();
            for (int customer = -1; customer <= 8; customer++) {
                same("share", x.share(ticket, customer), model.share(ticket, customer));
            }
        }

        void print() {
            int ticket = aTicket();
            int i = small(45);
            same("print", x.print(ticket, i), model.print(ticket, i));
        }

        void poke() {
            int row = aRow();
            int i = small(72);
            int mask = small(255);
            same("poke", x.poke(row, i, mask) ? 1 : 0, model.poke(row, i, mask));
        }

        void byteAt() {
            int row = aRow();
            int i = small(72);
            long got;
            try {
                got = x.byteAt(row, i);
            } catch (ArrayIndexOutOfBoundsException e) {
                got = -7;
            }
            same("byteAt", got, model.byteAt(row, i));
        }

        void digest() {
            int row = aRow();
            int i = small(31);
            same("digest", x.digest(row, i), model.digest(row, i));
        }

        void check() throws NoSuchAlgorithmException {
            int from = small(model.rows.size());
            same("check", x.check(from), model.check(from));
        }

        void root() throws NoSuchAlgorithmException {
            int day = random.nextInt(5) == 0 ? small(92592) : random.nextInt(5);
            int i = small(31);
            same("root", x.root(day, i), model.root(day, i));
        }

        void same(String call, long got, long want) {
            calls++;
            Due.is("run " + run + ", " + call, got, want);
        }
    }
}
