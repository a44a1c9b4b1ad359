import java.util.Arrays;
import java.util.NoSuchElementException;

/**
 * A vault of names and values, kept under a password on a disk with two slots, of which a save
 * never touches the newest good one.
 */
public final class CrashVault {
    private final Slots slots = new Slots();
    private final Entries table = new Entries();
    private boolean unlocked;
    private long password;
    // A save looks for the newest good slot under this one: a renewed password has no slot yet.
    private long savedPassword;
    private int salt;
    private int rounds;
    private int lastSerial;

    public CrashVault() {
    }

    public boolean make(long password, int salt, int rounds, int power) throws IllegalArgumentException {
        if (!Slots.areRounds(rounds) || power < 0) {
            throw new IllegalArgumentException();
        }
        slots.wipe();
        table.clear();
        unlock(password, salt, rounds, 0);
        return writeOut(power);
    }

    public int open(long password) throws NoSuchElementException {
        int slot = slots.newestFor(password);
        if (slot < 0) {
            throw new NoSuchElementException();
        }
        slots.load(slot, password, table);
        unlock(password, slots.saltIn(slot), slots.roundsIn(slot), slots.serialIn(slot));
        return lastSerial;
    }

    public boolean shut() {
        boolean was = unlocked;
        unlocked = false;
        return was;
    }

    public boolean isOpen() {
        return unlocked;
    }

    public int length() throws IllegalStateException {
        requireOpen();
        return Slots.fileBytes(table.contentBytes());
    }

    public boolean save(int power) throws IllegalStateException, IllegalArgumentException {
        requireOpen();
        if (power < 0) {
            throw new IllegalArgumentException();
        }
        return writeOut(power);
    }

    public void renew(long password, int rounds) throws IllegalStateException, IllegalArgumentException {
        requireOpen();
        if (!Slots.areRounds(rounds)) {
            throw new IllegalArgumentException();
        }
        this.password = password;
        this.rounds = rounds;
    }

    public int serial() throws IllegalStateException {
        requireOpen();
        return lastSerial;
    }

    public boolean put(long name, long value)
            throws IllegalStateException, IllegalArgumentException, UnsupportedOperationException {
        requireOpen();
        if (name == 0) {
            throw new IllegalArgumentException();
        }
        int i = table.find(name);
        if (i >= 0) {
            table.change(i, value);
            return false;
        }
        if (table.isFull()) {
            throw new UnsupportedOperationException();
        }
        table.insert(name, value);
        return true;
    }

    public boolean remove(long name) throws IllegalStateException {
        requireOpen();
        int i = table.find(name);
        if (i < 0) {
            return false;
        }
        table.drop(i);
        return true;
    }

    public int entries() throws IllegalStateException {
        requireOpen();
        return table.count();
    }

    public long name(int i) throws IllegalStateException, IndexOutOfBoundsException {
        requireOpen();
        if (i < 0 || i >= table.count()) {
            throw new IndexOutOfBoundsException();
        }
        return table.nameAt(i);
    }

    public long value(long name, int back)
            throws IllegalStateException, IndexOutOfBoundsException, NoSuchElementException {
        requireOpen();
        if (back < 0 || back > Entries.MOST_OLD) {
            throw new IndexOutOfBoundsException();
        }
        int i = table.find(name);
        if (i < 0 || back > table.oldValues(i)) {
            throw new NoSuchElementException();
        }
        return table.valueAt(i, back);
    }

    public int disk(int i) throws IndexOutOfBoundsException {
        requireDiskByte(i);
        return slots.byteAt(i);
    }

    public void spoil(int i, int bits) throws IndexOutOfBoundsException {
        requireDiskByte(i);
        slots.flip(i, bits & 0xff);
    }

    public boolean isGood(int slot, long password) throws IndexOutOfBoundsException {
        if (slot != 0 && slot != 1) {
            throw new IndexOutOfBoundsException();
        }
        return slots.holdsFile(slot, password);
    }

    private void requireOpen() {
        if (!unlocked) {
            throw new IllegalStateException();
        }
    }

    private static void requireDiskByte(int i) {
        if (i < 0 || i >= Slots.DISK_BYTES) {
            throw new IndexOutOfBoundsException();
        }
    }

    private void unlock(long password, int salt, int rounds, int serial) {
        this.password = password;
        this.savedPassword = password;
        this.salt = salt;
        this.rounds = rounds;
        this.lastSerial = serial;
        this.unlocked = true;
    }

    private boolean writeOut(int power) {
        int target = slots.newestFor(savedPassword) == 0 ? 1 : 0;
        lastSerial++;
        int bytes = slots.compose(password, salt, rounds, lastSerial, table);
        slots.write(target, Math.min(power, bytes));
        unlocked = power >= bytes;
        savedPassword = password;
        return unlocked;
    }

    /** The disk, and the files in its two slots. */
    private static final class Slots {
        static final int DISK_BYTES = 600;
        private static final int SLOT_BYTES = 300;
        private static final int MARK_0 = 0x56;
        private static final int MARK_1 = 0x32;
        private static final int SERIAL_AT = 2;
        private static final int SALT_AT = 6;
        private static final int ROUNDS_AT = 10;
        private static final int SIZE_AT = 11;
        private static final int HEADER_BYTES = 13;
        private static final int SEAL_BYTES = 8;
        private static final int CONTENT_AT = HEADER_BYTES + SEAL_BYTES;
        private static final int HEADER_SEAL = 3;
        private static final int FILE_SEAL = 4;
        private static final int MOST_ROUNDS = 40;

        private final int[] platter = new int[DISK_BYTES];
        // Files are ciphered and deciphered here, so that a look at a slot leaves the disk alone.
        private final int[] file = new int[SLOT_BYTES];
        private final Keyring keyring = new Keyring();
        // A look at a slot must not touch the entries of the vault that is open.
        private final Entries looked = new Entries();

        static boolean areRounds(int rounds) {
            return rounds >= 1 && rounds <= MOST_ROUNDS;
        }

        static int fileBytes(int contentBytes) {
            return CONTENT_AT + contentBytes + SEAL_BYTES;
        }

        void wipe() {
            Arrays.fill(platter, 0);
        }

        int byteAt(int i) {
            return platter[i];
        }

        void flip(int i, int bits) {
            platter[i] ^= bits;
        }

        int serialIn(int slot) {
            return Bytes.intAt(platter, slot * SLOT_BYTES + SERIAL_AT);
        }

        int saltIn(int slot) {
            return Bytes.intAt(platter, slot * SLOT_BYTES + SALT_AT);
        }

        int roundsIn(int slot) {
            return platter[slot * SLOT_BYTES + ROUNDS_AT];
        }

        boolean holdsFile(int slot, long password) {
            return load(slot, password, looked);
        }

        /** The newest good slot, or -1. */
        int newestFor(long password) {
            boolean good0 = load(0, password, looked);
            boolean good1 = load(1, password, looked);
            if (good0 && good1) {
                return serialIn(0) >= serialIn(1) ? 0 : 1;
            }
            if (good0) {
                return 0;
            }
            return good1 ? 1 : -1;
        }

        /** Whether the slot is good; only then do the entries hold what is in it. */
        boolean load(int slot, long password, Entries into) {
            System.arraycopy(platter, slot * SLOT_BYTES, file, 0, SLOT_BYTES);
            int size = file[SIZE_AT] | file[SIZE_AT + 1] << 8;
            if (file[0] != MARK_0 || file[1] != MARK_1 || !areRounds(file[ROUNDS_AT])
                    || fileBytes(size) > SLOT_BYTES) {
                return false;
            }
            keyring.derive(password, Bytes.intAt(file, SALT_AT), file[ROUNDS_AT]);
            keyring.seal(file, HEADER_BYTES, HEADER_SEAL);
            if (!keyring.sealStandsAt(file, HEADER_BYTES)) {
                return false;
            }
            keyring.seal(file, CONTENT_AT + size, FILE_SEAL);
            if (!keyring.sealStandsAt(file, CONTENT_AT + size)) {
                return false;
            }
            keyring.cipher(file, CONTENT_AT, size, Bytes.intAt(file, SERIAL_AT));
            return into.readFrom(file, CONTENT_AT, size);
        }

        /** Lays the file out ready to be written, and tells how many bytes it has. */
        int compose(long password, int salt, int rounds, int serial, Entries entries) {
            int size = entries.contentBytes();
            file[0] = MARK_0;
            file[1] = MARK_1;
            Bytes.setInt(file, SERIAL_AT, serial);
            Bytes.setInt(file, SALT_AT, salt);
            file[ROUNDS_AT] = rounds;
            file[SIZE_AT] = size & 0xff;
            file[SIZE_AT + 1] = size >> 8;
            keyring.derive(password, salt, rounds);
            keyring.seal(file, HEADER_BYTES, HEADER_SEAL);
            keyring.setSealAt(file, HEADER_BYTES);
            entries.writeTo(file, CONTENT_AT);
            keyring.cipher(file, CONTENT_AT, size, serial);
            keyring.seal(file, CONTENT_AT + size, FILE_SEAL);
            keyring.setSealAt(file, CONTENT_AT + size);
            return fileBytes(size);
        }

        void write(int slot, int bytes) {
            System.arraycopy(file, 0, platter, slot * SLOT_BYTES, bytes);
        }
    }

    /** The entries of a vault, in the order of their names. */
    private static final class Entries {
        static final int MOST_OLD = 2;
        private static final int MOST = 8;
        private static final int VALUES_EACH = 1 + MOST_OLD;
        private static final int LONG_BYTES = 8;
        // An entry without old values: its name, their number, its value.
        private static final int LEAST_BYTES = LONG_BYTES + 1 + LONG_BYTES;

        private final long[] names = new long[MOST];
        private final int[] olds = new int[MOST];
        // Entry i has the places from i * VALUES_EACH on: its value, then the old ones, latest first.
        private final long[] values = new long[MOST * VALUES_EACH];
        private int count;

        void clear() {
            count = 0;
        }

        int count() {
            return count;
        }

        boolean isFull() {
            return count == MOST;
        }

        long nameAt(int i) {
            return names[i];
        }

        int oldValues(int i) {
            return olds[i];
        }

        long valueAt(int i, int back) {
            return values[i * VALUES_EACH + back];
        }

        /** The place of a name, or -1. */
        int find(long name) {
            for (int i = 0; i < count; i++) {
                if (names[i] == name) {
                    return i;
                }
            }
            return -1;
        }

        void change(int i, long value) {
            int at = i * VALUES_EACH;
            if (values[at] == value) {
                return;
            }
            System.arraycopy(values, at, values, at + 1, MOST_OLD);
            values[at] = value;
            olds[i] = Math.min(olds[i] + 1, MOST_OLD);
        }

        void insert(long name, long value) {
            int i = 0;
            while (i < count && names[i] < name) {
                i++;
            }
            move(i, i + 1, count - i);
            count++;
            names[i] = name;
            olds[i] = 0;
            values[i * VALUES_EACH] = value;
        }

        void drop(int i) {
            count--;
            move(i + 1, i, count - i);
        }

        private void move(int from, int to, int many) {
            System.arraycopy(names, from, names, to, many);
            System.arraycopy(olds, from, olds, to, many);
            System.arraycopy(values, from * VALUES_EACH, values, to * VALUES_EACH, many * VALUES_EACH);
        }

        int contentBytes() {
            int bytes = 1;
            for (int i = 0; i < count; i++) {
                bytes += entryBytes(olds[i]);
            }
            return bytes;
        }

        private static int entryBytes(int oldValues) {
            return LEAST_BYTES + oldValues * LONG_BYTES;
        }

        void writeTo(int[] row, int start) {
            row[start] = count;
            int at = start + 1;
            for (int i = 0; i < count; i++) {
                Bytes.setLong(row, at, names[i]);
                row[at + LONG_BYTES] = olds[i];
                for (int back = 0; back <= olds[i]; back++) {
                    Bytes.setLong(row, valuePlace(at, back), valueAt(i, back));
                }
                at += entryBytes(olds[i]);
            }
        }

        /** Whether these bytes are a content; what the entries hold if not is of no use. */
        boolean readFrom(int[] row, int start, int size) {
            count = 0;
            if (size < 1 || row[start] > MOST) {
                return false;
            }
            int many = row[start];
            int end = start + size;
            int at = start + 1;
            for (int i = 0; i < many; i++) {
                if (!readEntry(row, at, end)) {
                    return false;
                }
                at += entryBytes(olds[i]);
                count++;
            }
            return at == end;
        }

        private boolean readEntry(int[] row, int at, int end) {
            if (at + LEAST_BYTES > end) {
                return false;
            }
            long name = Bytes.longAt(row, at);
            int oldValues = row[at + LONG_BYTES];
            if (!mayFollow(name) || oldValues > MOST_OLD || at + entryBytes(oldValues) > end) {
                return false;
            }
            names[count] = name;
            olds[count] = oldValues;
            for (int back = 0; back <= oldValues; back++) {
                values[count * VALUES_EACH + back] = Bytes.longAt(row, valuePlace(at, back));
            }
            return true;
        }

        private boolean mayFollow(long name) {
            return name != 0 && (count == 0 || name > names[count - 1]);
        }

        private static int valuePlace(int entryAt, int back) {
            return entryAt + LONG_BYTES + 1 + back * LONG_BYTES;
        }
    }

    /** The key of a password, and what is sealed and ciphered with it. */
    private static final class Keyring {
        private static final int KEY_INTS = 4;
        private static final int BLOCK_BYTES = 64;
        private static final int PASSWORD_NUMBER = 1;
        private static final int ROUND_NUMBER = 2;
        private static final int STREAM_NUMBER = 5;

        private final Block block = new Block();
        private final int[] key = new int[KEY_INTS];
        // A seal changes its key at every int; the password's own is needed again after it.
        private final int[] running = new int[KEY_INTS];

        void derive(long password, int salt, int rounds) {
            key[0] = (int) password;
            key[1] = (int) (password >>> 32);
            key[2] = salt;
            key[3] = 0;
            block.fill(key, 0, -1, PASSWORD_NUMBER);
            block.copyKeyTo(key);
            for (int i = 0; i < rounds; i++) {
                block.fill(key, i, 0, ROUND_NUMBER);
                block.copyKeyTo(key);
            }
        }

        /** Seals the first bytes of a row; the seal stays here until the next one. */
        void seal(int[] row, int bytes, int number) {
            System.arraycopy(key, 0, running, 0, KEY_INTS);
            for (int at = 0; at < bytes; at += 4) {
                block.fill(running, Bytes.filledIntAt(row, at, bytes), at / 4, number);
                block.copyKeyTo(running);
            }
            block.fill(running, bytes, -1, number);
            block.copyKeyTo(running);
        }

        boolean sealStandsAt(int[] row, int at) {
            return Bytes.intAt(row, at) == running[0] && Bytes.intAt(row, at + 4) == running[1];
        }

        void setSealAt(int[] row, int at) {
            Bytes.setInt(row, at, running[0]);
            Bytes.setInt(row, at + 4, running[1]);
        }

        void cipher(int[] row, int start, int bytes, int serial) {
            for (int j = 0; j < bytes; j++) {
                int inBlock = j % BLOCK_BYTES;
                if (inBlock == 0) {
                    block.fill(key, j / BLOCK_BYTES, serial, STREAM_NUMBER);
                }
                row[start + j] ^= block.byteAt(inBlock);
            }
        }
    }

    /** A block: sixteen ints, stirred. */
    private static final class Block {
        private static final int INTS = 16;
        private static final int[] BEGIN = {0x61707865, 0x3320646e, 0x79622d32, 0x6b206574};

        private final int[] first = new int[INTS];
        private final int[] ints = new int[INTS];

        void fill(int[] key, int x, int y, int z) {
            System.arraycopy(BEGIN, 0, first, 0, 4);
            System.arraycopy(key, 0, first, 4, 4);
            System.arraycopy(key, 0, first, 8, 4);
            first[12] = x;
            first[13] = y;
            first[14] = z;
            first[15] = 0;
            System.arraycopy(first, 0, ints, 0, INTS);
            for (int i = 0; i < 4; i++) {
                stir(0, 4, 8, 12);
                stir(1, 5, 9, 13);
                stir(2, 6, 10, 14);
                stir(3, 7, 11, 15);
                stir(0, 5, 10, 15);
                stir(1, 6, 11, 12);
                stir(2, 7, 8, 13);
                stir(3, 4, 9, 14);
            }
            for (int i = 0; i < INTS; i++) {
                ints[i] += first[i];
            }
        }

        void copyKeyTo(int[] key) {
            System.arraycopy(ints, 0, key, 0, 4);
        }

        int byteAt(int i) {
            return ints[i / 4] >>> 8 * (i % 4) & 0xff;
        }

        private void stir(int a, int b, int c, int d) {
            ints[a] += ints[b];
            ints[d] = Integer.rotateLeft(ints[d] ^ ints[a], 16);
            ints[c] += ints[d];
            ints[b] = Integer.rotateLeft(ints[b] ^ ints[c], 12);
            ints[a] += ints[b];
            ints[d] = Integer.rotateLeft(ints[d] ^ ints[a], 8);
            ints[c] += ints[d];
            ints[b] = Integer.rotateLeft(ints[b] ^ ints[c], 7);
        }
    }

    /** Ints and longs in a row of bytes, the lowest first. */
    private static final class Bytes {
        static int intAt(int[] row, int at) {
            return row[at] | row[at + 1] << 8 | row[at + 2] << 16 | row[at + 3] << 24;
        }

        /** The int at a place, with 0 for its bytes from the end on. */
        static int filledIntAt(int[] row, int at, int end) {
            int x = 0;
            for (int i = 0; i < 4 && at + i < end; i++) {
                x |= row[at + i] << 8 * i;
            }
            return x;
        }

        static void setInt(int[] row, int at, int x) {
            for (int i = 0; i < 4; i++) {
                row[at + i] = x >>> 8 * i & 0xff;
            }
        }

        static long longAt(int[] row, int at) {
            return intAt(row, at) & 0xffffffffL | (long) intAt(row, at + 4) << 32;
        }

        static void setLong(int[] row, int at, long x) {
            setInt(row, at, (int) x);
            setInt(row, at + 4, (int) (x >>> 32));
        }
    }
}
