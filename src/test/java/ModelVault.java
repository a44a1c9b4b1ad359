import java.util.ArrayList;
import java.util.Arrays;
import java.util.List;
import java.util.Map;
import java.util.NoSuchElementException;
import java.util.TreeMap;

/** The vault of the document a second time, from the library's maps and from {@link Files}. */
final class ModelVault {
    /** What an open vault is; null stands for a shut one. */
    private static final class Open {
        final TreeMap<Long, List<Long>> entries = new TreeMap<>();
        long password;
        long savedPassword;
        int salt;
        int rounds;
        int serial;
    }

    private final byte[] disk = new byte[600];
    private Open open;

    boolean make(long password, int salt, int rounds, int power) {
        require(rounds >= 1 && rounds <= 40 && power >= 0, new IllegalArgumentException());
        Arrays.fill(disk, (byte) 0);
        open = new Open();
        open.password = password;
        open.savedPassword = password;
        open.salt = salt;
        open.rounds = rounds;
        return save(power);
    }

    int open(long password) {
        Open[] found = {read(0, password), read(1, password)};
        int slot = newest(found);
        require(slot >= 0, new NoSuchElementException());
        open = found[slot];
        return open.serial;
    }

    boolean shut() {
        boolean was = open != null;
        open = null;
        return was;
    }

    boolean isOpen() {
        return open != null;
    }

    int length() {
        requireOpen();
        return file().length;
    }

    boolean save(int power) {
        requireOpen();
        require(power >= 0, new IllegalArgumentException());
        int newest = newest(new Open[] {read(0, open.savedPassword), read(1, open.savedPassword)});
        open.serial++;
        byte[] file = file();
        System.arraycopy(file, 0, disk, newest == 0 ? 300 : 0, Math.min(power, file.length));
        open.savedPassword = open.password;
        if (power < file.length) {
            open = null;
        }
        return open != null;
    }

    void renew(long password, int rounds) {
        requireOpen();
        require(rounds >= 1 && rounds <= 40, new IllegalArgumentException());
        open.password = password;
        open.rounds = rounds;
    }

    int serial() {
        requireOpen();
        return open.serial;
    }

    boolean put(long name, long value) {
        requireOpen();
        require(name != 0, new IllegalArgumentException());
        List<Long> values = open.entries.get(name);
        if (values == null) {
            require(open.entries.size() < 8, new UnsupportedOperationException());
            open.entries.put(name, new ArrayList<>(List.of(value)));
            return true;
        }
        if (values.get(0) != value) {
            values.add(0, value);
        }
        if (values.size() > 3) {
            values.remove(3);
        }
        return false;
    }

    boolean remove(long name) {
        requireOpen();
        return open.entries.remove(name) != null;
    }

    int entries() {
        requireOpen();
        return open.entries.size();
    }

    long name(int i) {
        requireOpen();
        require(i >= 0 && i < open.entries.size(), new IndexOutOfBoundsException());
        return new ArrayList<>(open.entries.keySet()).get(i);
    }

    long value(long name, int back) {
        requireOpen();
        require(back >= 0 && back <= 2, new IndexOutOfBoundsException());
        List<Long> values = open.entries.getOrDefault(name, List.of());
        require(back < values.size(), new NoSuchElementException());
        return values.get(back);
    }

    int disk(int i) {
        require(i >= 0 && i < 600, new IndexOutOfBoundsException());
        return disk[i] & 0xff;
    }

    void spoil(int i, int bits) {
        require(i >= 0 && i < 600, new IndexOutOfBoundsException());
        disk[i] ^= (byte) bits;
    }

    boolean isGood(int slot, long password) {
        require(slot == 0 || slot == 1, new IndexOutOfBoundsException());
        return read(slot, password) != null;
    }

    private void requireOpen() {
        require(open != null, new IllegalStateException());
    }

    private static void require(boolean holds, RuntimeException otherwise) {
        if (!holds) {
            throw otherwise;
        }
    }

    private byte[] file() {
        return Files.file(open.password, open.salt, open.rounds, open.serial, content(open.entries));
    }

    private static byte[] content(Map<Long, List<Long>> entries) {
        long[][] rows = new long[entries.size()][];
        int i = 0;
        for (Map.Entry<Long, List<Long>> entry : entries.entrySet()) {
            rows[i] = new long[1 + entry.getValue().size()];
            rows[i][0] = entry.getKey();
            for (int v = 0; v < entry.getValue().size(); v++) {
                rows[i][1 + v] = entry.getValue().get(v);
            }
            i++;
        }
        return Files.content(rows);
    }

    private static int newest(Open[] found) {
        if (found[0] == null) {
            return found[1] == null ? -1 : 1;
        }
        return found[1] != null && found[1].serial > found[0].serial ? 1 : 0;
    }

    /** A slot is read by guessing what is in it, and asking whether the file of that is what stands there. */
    private Open read(int slot, long password) {
        byte[] bytes = Arrays.copyOfRange(disk, 300 * slot, 300 * slot + 300);
        java.nio.ByteBuffer in = java.nio.ByteBuffer.wrap(bytes).order(java.nio.ByteOrder.LITTLE_ENDIAN);
        Open guess = new Open();
        guess.password = password;
        guess.savedPassword = password;
        guess.serial = in.getInt(2);
        guess.salt = in.getInt(6);
        guess.rounds = bytes[10];
        int size = in.getShort(11) & 0xffff;
        if (guess.rounds < 1 || guess.rounds > 40 || size > 300 - Files.AROUND_CONTENT) {
            return null;
        }
        byte[] content = Files.stream(Files.key(password, guess.salt, guess.rounds), guess.serial, size);
        for (int j = 0; j < size; j++) {
            content[j] ^= bytes[Files.SEALED_HEADER + j];
        }
        byte[] due = Files.file(password, guess.salt, guess.rounds, guess.serial, content);
        boolean same = Arrays.equals(due, Arrays.copyOf(bytes, due.length));
        return same && take(guess.entries, content) ? guess : null;
    }

    private static boolean take(TreeMap<Long, List<Long>> into, byte[] content) {
        java.nio.ByteBuffer in = java.nio.ByteBuffer.wrap(content).order(java.nio.ByteOrder.LITTLE_ENDIAN);
        try {
            int many = in.get();
            for (int i = 0; i < many; i++) {
                long name = in.getLong();
                int values = 1 + in.get();
                List<Long> row = new ArrayList<>();
                for (int v = 0; v < values; v++) {
                    row.add(in.getLong());
                }
                into.put(name, row);
            }
        } catch (java.nio.BufferUnderflowException e) {
            return false;
        }
        return Arrays.equals(content(into), content) && into.size() <= 8 && !into.containsKey(0L)
            && into.values().stream().allMatch(row -> row.size() <= 3);
    }
}
