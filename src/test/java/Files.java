import java.io.ByteArrayOutputStream;
import java.nio.ByteBuffer;
import java.nio.ByteOrder;
import java.util.Arrays;
import java.util.function.Supplier;

/** The document's files, built a second time and apart from the program, to tell what is due on the disk. */
final class Files {
    static final int SEALED_HEADER = 21;
    static final int AROUND_CONTENT = 29;

    private Files() {
    }

    static int[] block(int[] k, int x, int y, int z) {
        int[] first = {0x61707865, 0x3320646e, 0x79622d32, 0x6b206574,
            k[0], k[1], k[2], k[3], k[0], k[1], k[2], k[3], x, y, z, 0};
        int[][] fours = {{0, 4, 8, 12}, {1, 5, 9, 13}, {2, 6, 10, 14}, {3, 7, 11, 15},
            {0, 5, 10, 15}, {1, 6, 11, 12}, {2, 7, 8, 13}, {3, 4, 9, 14}};
        int[] s = first.clone();
        for (int time = 0; time < 4; time++) {
            for (int[] four : fours) {
                int a = s[four[0]];
                int b = s[four[1]];
                int c = s[four[2]];
                int d = s[four[3]];
                a += b;
                d = Integer.rotateLeft(d ^ a, 16);
                c += d;
                b = Integer.rotateLeft(b ^ c, 12);
                a += b;
                d = Integer.rotateLeft(d ^ a, 8);
                c += d;
                b = Integer.rotateLeft(b ^ c, 7);
                s[four[0]] = a;
                s[four[1]] = b;
                s[four[2]] = c;
                s[four[3]] = d;
            }
        }
        for (int i = 0; i < 16; i++) {
            s[i] += first[i];
        }
        return s;
    }

    static int[] seal(byte[] bytes, int[] key, int z) {
        ByteBuffer filled = little(Arrays.copyOf(bytes, (bytes.length + 3) / 4 * 4));
        int[] k = key;
        for (int i = 0; filled.hasRemaining(); i++) {
            k = Arrays.copyOf(block(k, filled.getInt(), i, z), 4);
        }
        return Arrays.copyOf(block(k, bytes.length, -1, z), 4);
    }

    static byte[] firstTwo(int[] seal) {
        return little(new byte[8]).putInt(seal[0]).putInt(seal[1]).array();
    }

    static int[] key(long password, int salt, int rounds) {
        int[] k = seal(new byte[0], new int[] {(int) password, (int) (password >> 32), salt, 0}, 1);
        for (int i = 0; i < rounds; i++) {
            k = Arrays.copyOf(block(k, i, 0, 2), 4);
        }
        return k;
    }

    static byte[] stream(int[] key, int serial, int bytes) {
        ByteBuffer all = little(new byte[(bytes + 63) / 64 * 64]);
        for (int j = 0; all.hasRemaining(); j++) {
            for (int word : block(key, j, serial, 5)) {
                all.putInt(word);
            }
        }
        return Arrays.copyOf(all.array(), bytes);
    }

    /** A content as it stands on the disk, or the other way. */
    static byte[] streamed(byte[] content, int[] key, int serial) {
        byte[] other = stream(key, serial, content.length);
        for (int j = 0; j < content.length; j++) {
            other[j] ^= content[j];
        }
        return other;
    }

    static byte[] header(int mark0, int mark1, int serial, int salt, int rounds, int contentBytes) {
        ByteBuffer header = little(new byte[13]);
        header.put((byte) mark0).put((byte) mark1).putInt(serial).putInt(salt);
        return header.put((byte) rounds).putShort((short) contentBytes).array();
    }

    static byte[] file(long password, int salt, int rounds, int serial, byte[] content) {
        int[] key = key(password, salt, rounds);
        byte[] header = header(0x56, 0x32, serial, salt, rounds, content.length);
        byte[] before = joined(header, firstTwo(seal(header, key, 3)), streamed(content, key, serial));
        return joined(before, firstTwo(seal(before, key, 4)));
    }

    /** Of each entry a row: its name, its value, its old values. */
    static byte[] content(long[]... entries) {
        ByteArrayOutputStream out = new ByteArrayOutputStream();
        out.write(entries.length);
        for (long[] entry : entries) {
            ByteBuffer bytes = little(new byte[8 * entry.length + 1]);
            bytes.putLong(entry[0]).put((byte) (entry.length - 2));
            for (int i = 1; i < entry.length; i++) {
                bytes.putLong(entry[i]);
            }
            out.writeBytes(bytes.array());
        }
        return out.toByteArray();
    }

    /** Entries of the names 1, 2, .. with so many old values each, and each long another. */
    static long[][] rows(int entries, int oldValues) {
        long[][] rows = new long[entries][2 + oldValues];
        for (int i = 0; i < entries; i++) {
            rows[i][0] = i + 1;
            for (int v = 1; v < rows[i].length; v++) {
                rows[i][v] = 0x1122334455667788L * (i + 1) + v;
            }
        }
        return rows;
    }

    static byte[] joined(byte[]... parts) {
        ByteArrayOutputStream out = new ByteArrayOutputStream();
        for (byte[] part : parts) {
            out.writeBytes(part);
        }
        return out.toByteArray();
    }

    /** Lays bytes on a disk that is all 0 there, with as few calls as it takes. */
    static void lay(CrashVault vault, int from, byte[] bytes) {
        for (int i = 0; i < bytes.length; i++) {
            if (bytes[i] != 0) {
                vault.spoil(from + i, bytes[i]);
            }
        }
    }

    /** Puts the values of the entries, the oldest first. */
    static void put(CrashVault vault, long[]... entries) {
        for (long[] entry : entries) {
            for (int v = entry.length - 1; v >= 1; v--) {
                vault.put(entry[0], entry[v]);
            }
        }
    }

    static void dueOnDisk(String what, CrashVault vault, int from, byte[] bytes) {
        for (int i = 0; i < bytes.length; i++) {
            Check.due(what + ": disk(" + (from + i) + ")", vault.disk(from + i), bytes[i] & 0xff);
        }
    }

    /** The whole disk: these bytes from slot 0's and slot 1's beginning on, and 0 behind them. */
    static void dueOnWholeDisk(String what, Supplier<CrashVault> made, byte[] slot0, byte[] slot1) {
        // Two vaults, for one has only 512 calls.
        dueOnDisk(what, made.get(), 0, Arrays.copyOf(slot0, 300));
        dueOnDisk(what, made.get(), 300, Arrays.copyOf(slot1, 300));
    }

    private static ByteBuffer little(byte[] bytes) {
        return ByteBuffer.wrap(bytes).order(ByteOrder.LITTLE_ENDIAN);
    }
}
