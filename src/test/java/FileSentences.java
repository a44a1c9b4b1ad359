import java.util.Arrays;
import java.util.NoSuchElementException;

/** The terms up to the file in a slot. */
final class FileSentences {
    private FileSentences() {
    }

    static void hold(Held held) {
        held.in("Terms")
            .by("Ints and longs wrap.", FileSentences::serialsWrap)
            .by("Of ints and longs as BYTES the lowest byte is first.", FileSentences::lowestByteFirst);
        holdSeals(held);
        held.by("A VAULT has at most 8 ENTRIES", FileSentences::atMostEightEntries)
            .by("a NAME (a long, not 0; they are in order as longs), a VALUE (a long)",
                FileSentences::namesInOrderAsLongs)
            .by("and at most two OLD values, the latest first.", FileSentences::atMostTwoOldValues)
            .by("Its CONTENT as bytes: the number of entries, one byte; of each in order its name, the number of old"
                + " values, one byte, the value, the old values.", FileSentences::contentAsBytes);
        holdFile(held);
    }

    private static void holdSeals(Held held) {
        held.by("TO STIR four of sixteen ints a, b, c, d: a becomes a + b; d becomes d xor a, turned left by 16 bits;"
                + " c becomes c + d; b becomes b xor c, turned by 12; a becomes a + b; d becomes d xor a, turned by 8;"
                + " c becomes c + d; b becomes b xor c, turned by 7.", FileSentences::aFileByteForByte)
            .by("A BLOCK of four ints k (a KEY) and three more, x, y and z: sixteen ints: 0x61707865, 0x3320646e,"
                + " 0x79622d32, 0x6b206574, the key, the key again, x, y, z, 0; four times these eight are stirred:"
                + " 0 4 8 12, 1 5 9 13, 2 6 10 14, 3 7 11 15, 0 5 10 15, 1 6 11 12, 2 7 8 13, 3 4 9 14; then to each"
                + " of the sixteen what it was at first is added.", FileSentences::wholeBlocks)
            .by("THE SEAL of n bytes by a key and a number z: the bytes are taken by fours as ints, the last one"
                + " filled up with 0", FileSentences::lastIntFilledUp)
            .by("for each, x, the i-th (from 0), the key becomes the first four ints of the block of it, x, i, z;"
                + " then those of the block of it, n, -1, z. These four ints are the seal.",
                FileSentences::sealsOfAllLengths)
            .by("THE KEY OF A PASSWORD (a long), a SALT (an int) and a number r of ROUNDS: the seal of no bytes by the"
                + " low half of the password, the high half, the salt, 0 as key and 1",
                FileSentences::sealOfNoBytes)
            .by("then r times, for i = 0, 1, ..: it becomes the first four ints of the block of it, i, 0, 2.",
                FileSentences::everyNumberOfRounds);
    }

    private static void holdFile(Held held) {
        held.by("THE DISK has 600 bytes, at first all 0: slot 0 are bytes 0 .. 299, slot 1 are bytes 300 .. 599.",
                FileSentences::twoSlots)
            .by("A SLOT holds, from its first byte on, a FILE", FileSentences::fromItsFirstByteOn)
            .by("the HEADER: 0x56, 0x32; the SERIAL, an int; the salt, an int", FileSentences::header)
            .by("the rounds, one byte, 1 .. 40", FileSentences::roundsInTheHeader)
            .by("the number of bytes of the content, two bytes", FileSentences::contentBytesInTheHeader)
            .by("then the first two ints of the seal of these 13 bytes by the key of the password (with this salt and"
                + " these rounds) and 3", FileSentences::headerSeal)
            .by("then the content, each byte xor one of the STREAM: byte j is byte j % 64 of the block of that key,"
                + " j / 64, the serial, 5, as bytes", FileSentences::stream)
            .by("then the first two ints of the seal of all bytes of the file before by that key and 4.",
                FileSentences::fileSeal);
    }

    private static CrashVault opened(byte[] file) {
        CrashVault vault = new CrashVault();
        Files.lay(vault, 0, file);
        vault.open(Forgery.PASSWORD);
        return vault;
    }

    private static void serialsWrap() {
        int[] serials = {Integer.MAX_VALUE - 1, Integer.MAX_VALUE, Integer.MIN_VALUE, -2, -1, 0, 0xff, 0xffff, 0xffffff};
        for (int serial : serials) {
            int next = serial == Integer.MAX_VALUE ? Integer.MIN_VALUE : serial + 1;
            CrashVault vault = opened(new Forgery(Files.content()).serial(serial).bytes());
            Check.due(serial + ": serial()", vault.serial(), serial);
            Check.due(serial + ": save(30)", vault.save(30), true);
            Check.due(serial + ": serial() of the saved one", vault.serial(), next);
            Files.dueOnDisk(serial + ", saved", vault, 300, new Forgery(Files.content()).serial(next).bytes());
            Check.due(serial + ": isGood(1)", vault.isGood(1, Forgery.PASSWORD), true);
        }
    }

    private static void lowestByteFirst() {
        CrashVault vault = opened(new Forgery(Files.content()).serial(0x01020304).bytes());
        vault.put(0x1122334455667788L, 0x99aabbccddeeff00L);
        vault.save(1000);
        dueBytes("the serial", vault, 302, 0x05, 0x03, 0x02, 0x01);
        int[] key = Files.key(Forgery.PASSWORD, Forgery.SALT, 1);
        byte[] stream = Files.stream(key, 0x01020305, 18);
        int[] clear = {1, 0x88, 0x77, 0x66, 0x55, 0x44, 0x33, 0x22, 0x11, 0,
            0x00, 0xff, 0xee, 0xdd, 0xcc, 0xbb, 0xaa, 0x99};
        for (int j = 0; j < clear.length; j++) {
            Check.due("byte " + j + " of the content", vault.disk(321 + j) ^ stream[j] & 0xff, clear[j]);
        }
        vault.make(5, 0xf1e2d3c4, 1, 1000);
        dueBytes("the salt", vault, 6, 0xc4, 0xd3, 0xe2, 0xf1);
    }

    private static void dueBytes(String what, CrashVault vault, int from, int... bytes) {
        for (int i = 0; i < bytes.length; i++) {
            Check.due(what + ": disk(" + (from + i) + ")", vault.disk(from + i), bytes[i]);
        }
    }

    /** Written out, so that a fault that the tests' own file builder shared would show. */
    private static void aFileByteForByte() {
        CrashVault vault = new CrashVault();
        vault.make(5, 9, 2, 30);
        dueBytes("make(5, 9, 2, 30)", vault, 0, 86, 50, 1, 0, 0, 0, 9, 0, 0, 0, 2, 1, 0,
            163, 219, 106, 21, 43, 7, 204, 79, 189, 191, 56, 164, 120, 131, 22, 194, 184, 0);
    }

    /** The block of a key of all 0 is that of the cipher ChaCha8 with such a key, which others have published. */
    private static void wholeBlocks() {
        int[] published = {0x2fef003e, 0xd6405f89, 0xe8b85b7f, 0xa1a5091f, 0xc30e842c, 0x3b7f9ace, 0x88e11b18,
            0x1e1a71ef, 0x72e14c98, 0x416f21b9, 0x6753449f, 0x19566d45, 0xa3424a31, 0x01b086da, 0xb8fd7b38, 0x42fe0c0e};
        Check.due("the builder's own block", Arrays.toString(Files.block(new int[4], 0, 0, 0)),
            Arrays.toString(published));
        long[][] rows = Files.rows(8, 2);
        CrashVault vault = Scene.made();
        Files.put(vault, rows);
        vault.save(294);
        // Four whole blocks of the stream, and the beginning of a fifth.
        Files.dueOnDisk("four blocks and more", vault, 300, Files.file(5, 9, 3, 2, Files.content(rows)));
    }

    /** 0, 1, 2, 3 entries leave 2, 3, 0, 1 bytes for the last int; what stood behind them is not 0. */
    private static void lastIntFilledUp() {
        for (int entries = 0; entries <= 8; entries++) {
            long[][] rows = Files.rows(entries, 0);
            byte[] due = Files.file(5, 9, 3, 2, Files.content(rows));
            CrashVault vault = Scene.made();
            Files.put(vault, rows);
            for (int i = due.length - 12; i < due.length + 4; i++) {
                vault.spoil(300 + i, 0xff);
            }
            vault.save(1000);
            Files.dueOnDisk(entries + " entries", vault, 300, due);
            dueBytes(entries + " entries", vault, 300 + due.length, 0xff, 0xff, 0xff, 0xff, 0);
            Check.due(entries + " entries: isGood(1, 5)", vault.isGood(1, 5), true);
        }
    }

    private static void sealsOfAllLengths() {
        for (int entries = 0; entries <= 8; entries++) {
            for (int oldValues = 0; oldValues <= 2; oldValues++) {
                String what = entries + " entries, " + oldValues + " old values";
                long[][] rows = Files.rows(entries, oldValues);
                byte[] due = Files.file(5, 9, 3, 2, Files.content(rows));
                CrashVault vault = Scene.made();
                Files.put(vault, rows);
                Check.due(what + ": save", vault.save(due.length), true);
                Files.dueOnDisk(what, vault, 300, due);
                Check.due(what + ": isGood(1, 5)", vault.isGood(1, 5), true);
            }
        }
    }

    private static void sealOfNoBytes() {
        long[] passwords = {0, 1, -1, 1L << 31, 1L << 32, 0xffffffffL, -1L << 32, Long.MIN_VALUE, Long.MAX_VALUE,
            0x0123456789abcdefL, 0x89abcdef01234567L};
        int[] salts = {0, 1, -1, Integer.MIN_VALUE, Integer.MAX_VALUE, 0x01020304};
        for (long password : passwords) {
            for (int salt : salts) {
                CrashVault vault = new CrashVault();
                vault.make(password, salt, 1, 1000);
                String what = "make(" + password + ", " + salt + ", 1, 1000)";
                Files.dueOnDisk(what, vault, 0, Files.file(password, salt, 1, 1, Files.content()));
                for (long other : passwords) {
                    Check.due(what + ": isGood(0, " + other + ")", vault.isGood(0, other), other == password);
                }
            }
        }
    }

    private static void everyNumberOfRounds() {
        for (int rounds = 1; rounds <= 40; rounds++) {
            CrashVault vault = new CrashVault();
            vault.make(5, 9, rounds, 1000);
            String what = "make(5, 9, " + rounds + ", 1000)";
            Files.dueOnDisk(what, vault, 0, Files.file(5, 9, rounds, 1, Files.content()));
            Check.due(what + ": isGood(0, 5)", vault.isGood(0, 5), true);
        }
    }

    private static void atMostEightEntries() {
        for (int entries : new int[] {0, 1, 7, 8}) {
            long[][] rows = Files.rows(entries, 0);
            CrashVault vault = Scene.made();
            Files.put(vault, rows);
            Check.due(entries + ": entries()", vault.entries(), entries);
            if (entries < 8) {
                Check.due(entries + ": put(99, 1)", vault.put(99, 1), true);
            } else {
                Check.refused(entries + ": put(99, 1)", UnsupportedOperationException.class, () -> vault.put(99, 1));
            }
            vault.remove(99);
            vault.save(1000);
            vault.open(5);
            Check.due(entries + ": entries() of the opened one", vault.entries(), entries);
        }
    }

    private static void namesInOrderAsLongs() {
        long[] mixed = {5, Long.MAX_VALUE, -1, 1L << 32, Long.MIN_VALUE, 1, -1L << 32, 0xffffffffL};
        long[] sorted = {Long.MIN_VALUE, -1L << 32, -1, 1, 5, 0xffffffffL, 1L << 32, Long.MAX_VALUE};
        CrashVault vault = Scene.made();
        for (int i = 0; i < mixed.length; i++) {
            vault.put(mixed[i], ~mixed[i]);
            long[] sorts = Arrays.copyOf(mixed, i + 1);
            Arrays.sort(sorts);
            for (int n = 0; n <= i; n++) {
                Check.due("name(" + n + ") of " + (i + 1), vault.name(n), sorts[n]);
            }
        }
        vault.save(1000);
        long[][] rows = new long[8][];
        for (int i = 0; i < 8; i++) {
            Check.due("name(" + i + ")", vault.name(i), sorted[i]);
            rows[i] = new long[] {sorted[i], ~sorted[i]};
        }
        Files.dueOnDisk("saved", vault, 300, Files.file(5, 9, 3, 2, Files.content(rows)));
        vault.open(5);
        for (long name : sorted) {
            Check.due("value(" + name + ", 0) of the opened one", vault.value(name, 0), ~name);
        }
    }

    private static void atMostTwoOldValues() {
        CrashVault vault = Scene.made();
        long[][] due = {{1, 10}, {1, 20, 10}, {1, 30, 20, 10}, {1, 40, 30, 20}, {1, 50, 40, 30}};
        for (int put = 0; put < due.length; put++) {
            vault.put(1, 10 * (put + 1));
            vault.save(1000);
            byte[] file = Files.file(5, 9, 3, put + 2, Files.content(due[put]));
            Files.dueOnDisk((put + 1) + " values", vault, put % 2 == 0 ? 300 : 0, file);
            vault.open(5);
            for (int back = 0; back < 3; back++) {
                int b = back;
                if (back + 1 < due[put].length) {
                    Check.due((put + 1) + " values: value(1, " + b + ")", vault.value(1, b), due[put][1 + b]);
                } else {
                    Check.refused((put + 1) + " values: value(1, " + b + ")", NoSuchElementException.class,
                        () -> vault.value(1, b));
                }
            }
        }
    }

    /** Entries with different numbers of old values beside one another, and none at all. */
    private static void contentAsBytes() {
        long[][][] all = {{}, {{3, 0}}, {{-7, 1, 2}, {3, 4}, {4, 5, 6, 7}}, {{1, -1, -2, -3}, {2, -4}},
            {{Long.MIN_VALUE, Long.MAX_VALUE, 0, Long.MIN_VALUE}, {Long.MAX_VALUE, Long.MIN_VALUE, Long.MAX_VALUE}}};
        for (long[][] rows : all) {
            CrashVault vault = Scene.made();
            Files.put(vault, rows);
            vault.save(1000);
            byte[] due = Files.file(5, 9, 3, 2, Files.content(rows));
            Files.dueOnDisk(rows.length + " entries", vault, 300, due);
            Check.due(rows.length + " entries: length()", vault.length(), due.length);
            String told = Told.entries(vault);
            vault.open(5);
            Check.due(rows.length + " entries, opened", Told.entries(vault), told);
        }
    }

    private static void twoSlots() {
        byte[] none = {};
        Files.dueOnWholeDisk("a new disk", CrashVault::new, none, none);
        CrashVault vault = new CrashVault();
        Check.due("disk(0)", vault.disk(0), 0);
        Check.due("disk(599)", vault.disk(599), 0);
        Check.refused("disk(-1)", IndexOutOfBoundsException.class, () -> vault.disk(-1));
        Check.refused("disk(600)", IndexOutOfBoundsException.class, () -> vault.disk(600));
        byte[] first = Files.file(5, 9, 3, 1, Files.content());
        byte[] second = Files.file(5, 9, 3, 2, Files.content());
        Files.dueOnWholeDisk("saved in both slots", () -> {
            CrashVault saved = Scene.made();
            saved.save(1000);
            return saved;
        }, first, second);
    }

    /** Bytes beside the slot's first one are no file's beginning, and bytes of the other slot are not its own. */
    private static void fromItsFirstByteOn() {
        byte[] file = new Forgery(Files.content()).bytes();
        for (int from : new int[] {0, 1, 150, 270, 271, 299, 300, 301, 570}) {
            CrashVault vault = new CrashVault();
            Files.lay(vault, from, file);
            Check.due("at " + from + ": isGood(0)", vault.isGood(0, Forgery.PASSWORD), from == 0);
            Check.due("at " + from + ": isGood(1)", vault.isGood(1, Forgery.PASSWORD), from == 300);
        }
        CrashVault vault = new CrashVault();
        Files.lay(vault, 300, file);
        vault.spoil(299, 255);
        vault.spoil(599, 255);
        Check.due("beside the file: isGood(1)", vault.isGood(1, Forgery.PASSWORD), true);
        vault.spoil(300, 1);
        Check.due("its first byte: isGood(1)", vault.isGood(1, Forgery.PASSWORD), false);
    }

    private static void header() {
        CrashVault vault = opened(new Forgery(Files.content()).serial(0x7ffffffe).bytes());
        vault.save(1000);
        dueBytes("serial 2147483647", vault, 300, 0x56, 0x32, 0xff, 0xff, 0xff, 0x7f, 9, 0, 0, 0, 1, 1, 0);
        vault.save(1000);
        dueBytes("serial -2147483648", vault, 0, 0x56, 0x32, 0, 0, 0, 0x80, 9, 0, 0, 0, 1, 1, 0);
        vault.make(5, -2, 40, 1000);
        dueBytes("salt -2", vault, 0, 0x56, 0x32, 1, 0, 0, 0, 0xfe, 0xff, 0xff, 0xff, 40, 1, 0);
        vault.make(5, Integer.MAX_VALUE, 1, 1000);
        dueBytes("salt 2147483647", vault, 0, 0x56, 0x32, 1, 0, 0, 0, 0xff, 0xff, 0xff, 0x7f, 1, 1, 0);
        vault.shut();
        vault.open(5);
        vault.save(1000);
        dueBytes("salt 2147483647, opened", vault, 306, 0xff, 0xff, 0xff, 0x7f, 1);
    }

    private static void roundsInTheHeader() {
        for (int rounds = 0; rounds <= 255; rounds++) {
            CrashVault vault = new CrashVault();
            Files.lay(vault, 0, new Forgery(Files.content()).rounds(rounds).bytes());
            Check.due("rounds " + rounds + ": isGood(0)", vault.isGood(0, Forgery.PASSWORD),
                rounds >= 1 && rounds <= 40);
        }
        CrashVault vault = new CrashVault();
        for (int rounds : new int[] {1, 2, 39, 40}) {
            vault.make(5, 9, rounds, 1000);
            Check.due("make with rounds " + rounds + ": disk(10)", vault.disk(10), rounds);
        }
    }

    /** 249 and 257 are the contents of eight entries on both sides of what one byte can tell. */
    private static void contentBytesInTheHeader() {
        int[][] sizes = {{0, 1, 0}, {14, 249, 0}, {15, 1, 1}, {16, 9, 1}};
        for (int[] size : sizes) {
            CrashVault vault = Scene.made();
            int oldValues = size[0];
            for (int i = 0; i < (oldValues == 0 ? 0 : 8); i++) {
                int mine = Math.min(2, Math.max(0, oldValues - 2 * i));
                Files.put(vault, Arrays.copyOf(Files.rows(8, 2)[i], 2 + mine));
            }
            String what = oldValues + " old values";
            vault.save(1000);
            dueBytes(what, vault, 311, size[1], size[2]);
            Check.due(what + ": length()", vault.length(), 29 + size[1] + 256 * size[2]);
            Check.due(what + ": isGood(1, 5)", vault.isGood(1, 5), true);
            String told = Told.entries(vault);
            vault.open(5);
            Check.due(what + ", opened", Told.entries(vault), told);
        }
    }

    /** Every bit of it counts, also where the file's seal is right for it. */
    private static void headerSeal() {
        for (int bit = -1; bit < 64; bit++) {
            CrashVault vault = new CrashVault();
            Files.lay(vault, 0, new Forgery(Files.content()).headerSealBit(bit).bytes());
            Check.due("the header's seal without bit " + bit + ": isGood(0)", vault.isGood(0, Forgery.PASSWORD),
                bit == -1);
        }
        CrashVault vault = new CrashVault();
        vault.make(Forgery.PASSWORD, 77, 5, 1000);
        byte[] header = Files.header(0x56, 0x32, 1, 77, 5, 1);
        Files.dueOnDisk("the seal", vault, 13,
            Files.firstTwo(Files.seal(header, Files.key(Forgery.PASSWORD, 77, 5), 3)));
    }

    /** On both sides of each 64 bytes, and with another serial another stream. */
    private static void stream() {
        long[][] rows = Files.rows(8, 2);
        byte[] content = Files.content(rows);
        int[] key = Files.key(5, 9, 3);
        for (int saves = 1; saves <= 3; saves++) {
            CrashVault vault = Scene.made();
            Files.put(vault, rows);
            for (int save = 0; save < saves; save++) {
                vault.save(1000);
            }
            int from = saves % 2 == 1 ? 321 : 21;
            Files.dueOnDisk("serial " + (saves + 1), vault, from, Files.streamed(content, key, saves + 1));
            for (int j : new int[] {0, 63, 64, 127, 128, 191, 192, 255, 256, 264}) {
                int due = Files.block(key, j / 64, saves + 1, 5)[j % 64 / 4] >>> 8 * (j % 4) & 0xff;
                Check.due("byte " + j + " of the stream", vault.disk(from + j) ^ content[j] & 0xff, due);
            }
        }
    }

    private static void fileSeal() {
        for (int bit = -1; bit < 64; bit++) {
            CrashVault vault = new CrashVault();
            Files.lay(vault, 0, new Forgery(Files.content()).fileSealBit(bit).bytes());
            Check.due("the file's seal without bit " + bit + ": isGood(0)", vault.isGood(0, Forgery.PASSWORD),
                bit == -1);
        }
        CrashVault vault = new CrashVault();
        vault.make(5, 9, 3, 1000);
        byte[] before = Arrays.copyOf(Files.file(5, 9, 3, 1, Files.content()), 22);
        Files.dueOnDisk("the seal", vault, 22, Files.firstTwo(Files.seal(before, Files.key(5, 9, 3), 4)));
    }
}
