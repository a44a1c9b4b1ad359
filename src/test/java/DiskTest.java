import java.util.NoSuchElementException;

/** Promises 15 to 17: disk, spoil, isGood, and which slot is good and which is the newest. */
public final class DiskTest {
    private static final long PASSWORD = 0x0123456789abcdefL;

    public static void main(String[] args) {
        diskRefuses();
        spoiled();
        spoilLeavesTheOpenVault();
        isGoodRefuses();
        isGoodForItsPasswordAlone();
        everyBitOfAFileCounts();
        whatStandsBehindTheFileDoesNot();
        forgedHeaders();
        forgedContents();
        largestFile();
        newest();
        serialsWrap();
        savesByTheOpenedPassword();
        Check.end();
    }

    private static void diskRefuses() {
        CrashVault vault = new CrashVault();
        for (int i : new int[] {-1, 600, 601, Integer.MAX_VALUE, Integer.MIN_VALUE}) {
            Check.refused("disk(" + i + ")", IndexOutOfBoundsException.class, () -> vault.disk(i));
            Check.refused("spoil(" + i + ", 1)", IndexOutOfBoundsException.class, () -> vault.spoil(i, 1));
        }
        Check.due("disk(0)", vault.disk(0), 0);
        Check.due("disk(599)", vault.disk(599), 0);
    }

    private static void spoiled() {
        CrashVault vault = new CrashVault();
        vault.spoil(0, 255);
        Check.due("255: disk(0)", vault.disk(0), 255);
        vault.spoil(0, 0x101);
        Check.due("0x101: disk(0)", vault.disk(0), 254);
        vault.spoil(0, -1);
        Check.due("-1: disk(0)", vault.disk(0), 1);
        vault.spoil(0, 256);
        Check.due("256: disk(0)", vault.disk(0), 1);
        Check.due("disk(1)", vault.disk(1), 0);
        vault.spoil(599, Integer.MIN_VALUE | 0x80);
        Check.due("disk(599)", vault.disk(599), 128);
        vault.spoil(299, 3);
        vault.spoil(300, 5);
        Check.due("disk(299)", vault.disk(299), 3);
        Check.due("disk(300)", vault.disk(300), 5);
    }

    private static void spoilLeavesTheOpenVault() {
        CrashVault vault = new CrashVault();
        vault.make(5, 9, 3, 1000);
        vault.put(1, 11);
        vault.save(1000);
        vault.spoil(2, 255);
        vault.spoil(306, 255);
        vault.spoil(310, 1);
        vault.spoil(330, 1);
        Check.due("spoiled: serial()", vault.serial(), 2);
        Check.due("spoiled: value(1, 0)", vault.value(1, 0), 11);
        Check.refused("spoiled: open(5)", NoSuchElementException.class, () -> vault.open(5));
        Check.due("spoiled: save", vault.save(1000), true);
        Files.dueOnDisk("spoiled", vault, 0, Files.file(5, 9, 3, 3, Files.content(new long[] {1, 11})));
    }

    private static void isGoodRefuses() {
        CrashVault vault = new CrashVault();
        for (int slot : new int[] {-1, 2, 300, Integer.MAX_VALUE, Integer.MIN_VALUE}) {
            Check.refused("isGood(" + slot + ", 0)", IndexOutOfBoundsException.class, () -> vault.isGood(slot, 0));
        }
        Check.due("isGood(0, 0)", vault.isGood(0, 0), false);
        Check.due("isGood(1, 0)", vault.isGood(1, 0), false);
    }

    private static void isGoodForItsPasswordAlone() {
        CrashVault vault = new CrashVault();
        vault.make(PASSWORD, 9, 3, 1000);
        vault.put(1, 1);
        Check.due("isGood(0, its own)", vault.isGood(0, PASSWORD), true);
        Check.due("isGood(1, its own)", vault.isGood(1, PASSWORD), false);
        for (int bit = 0; bit < 64; bit++) {
            Check.due("isGood(0, bit " + bit + " off)", vault.isGood(0, PASSWORD ^ 1L << bit), false);
        }
        Check.due("asked: isOpen()", vault.isOpen(), true);
        Check.due("asked: entries()", vault.entries(), 1);
        vault.shut();
        Check.due("shut: isGood(0, its own)", vault.isGood(0, PASSWORD), true);
        Check.due("asked: isOpen() when shut", vault.isOpen(), false);
    }

    private static void everyBitOfAFileCounts() {
        byte[] file = Files.file(PASSWORD, 9, 3, 7, Files.content(new long[] {1, 2}, new long[] {3, 4, 5}));
        for (int slot = 0; slot < 2; slot++) {
            for (int bit = 0; bit < 8 * file.length; bit++) {
                CrashVault vault = new CrashVault();
                Files.lay(vault, slot, file);
                int at = 300 * slot + bit / 8;
                vault.spoil(at, 1 << bit % 8);
                Check.due("bit " + bit + " off: isGood(" + slot + ")", vault.isGood(slot, PASSWORD), false);
                vault.spoil(at, 1 << bit % 8);
                Check.due("bit " + bit + " on: isGood(" + slot + ")", vault.isGood(slot, PASSWORD), true);
            }
        }
    }

    private static void whatStandsBehindTheFileDoesNot() {
        byte[] file = Files.file(PASSWORD, 9, 3, 7, Files.content(new long[] {1, 2}));
        CrashVault vault = new CrashVault();
        Files.lay(vault, 0, file);
        for (int i = file.length; i < 300; i++) {
            vault.spoil(i, 0xaa);
        }
        Check.due("behind the file: isGood(0)", vault.isGood(0, PASSWORD), true);
        Check.due("behind the file: open", vault.open(PASSWORD), 7);
    }

    private static void dueGood(String what, byte[] file, boolean due) {
        for (int slot = 0; slot < 2; slot++) {
            CrashVault vault = new CrashVault();
            Files.lay(vault, slot, file);
            Check.due(what + ": isGood(" + slot + ")", vault.isGood(slot, PASSWORD), due);
            Check.due(what + ": isGood(" + (1 - slot) + ")", vault.isGood(1 - slot, PASSWORD), false);
            if (due) {
                vault.open(PASSWORD);
            } else {
                Check.refused(what + ": open", NoSuchElementException.class, () -> vault.open(PASSWORD));
            }
            Check.due(what + ": isOpen()", vault.isOpen(), due);
        }
    }

    private static void forgedHeaders() {
        byte[] none = Files.content();
        dueGood("marks", Files.file(0x56, 0x32, PASSWORD, 9, 3, 7, 1, none), true);
        dueGood("first mark", Files.file(0x57, 0x32, PASSWORD, 9, 3, 7, 1, none), false);
        dueGood("second mark", Files.file(0x56, 0x33, PASSWORD, 9, 3, 7, 1, none), false);
        for (int rounds : new int[] {0, 1, 40, 41, 128, 255}) {
            dueGood("rounds " + rounds, Files.file(PASSWORD, 9, rounds, 7, none), rounds >= 1 && rounds <= 40);
        }
        for (int told : new int[] {0, 2, 257, 271, 272, 300, 0x8000, 0x8001, 0xffff}) {
            dueGood("told " + told, Files.file(0x56, 0x32, PASSWORD, 9, 3, 7, told, none), false);
        }
        for (int salt : new int[] {0, -1, Integer.MIN_VALUE}) {
            dueGood("salt " + salt, Files.file(PASSWORD, salt, 1, 7, none), true);
        }
    }

    private static byte[] numbered(int entries, byte[] content) {
        byte[] other = content.clone();
        other[0] = (byte) entries;
        return other;
    }

    private static void dueContent(String what, byte[] content, boolean due) {
        dueGood(what, Files.file(PASSWORD, 9, 1, 7, content), due);
    }

    private static void forgedContents() {
        long[] one = {1, 10};
        long[] two = {2, 20, 21, 22};
        dueContent("two", Files.content(one, two), true);
        dueContent("out of order", Files.content(two, one), false);
        dueContent("the same twice", Files.content(one, one), false);
        dueContent("a name 0", Files.content(new long[] {0, 1}), false);
        dueContent("a name 0 behind another", Files.content(new long[] {-1, 1}, new long[] {0, 1}), false);
        dueContent("negative first", Files.content(new long[] {-1, 1}, one), true);
        dueContent("negative last", Files.content(one, new long[] {-1, 1}), false);
        dueContent("order of the high half", Files.content(new long[] {2, 1}, new long[] {1L << 32, 1}), true);
        dueContent("an old value as the value is", Files.content(new long[] {1, 5, 5, 5}), true);
        dueContent("three old values", Files.content(new long[] {1, 2, 3, 4, 5}), false);
        dueContent("no bytes", new byte[0], false);
        dueContent("one entry told, none there", numbered(1, Files.content()), false);
        dueContent("one told, two there", numbered(1, Files.content(one, two)), false);
        dueContent("three told, two there", numbered(3, Files.content(one, two)), false);
        dueContent("255 told, two there", numbered(255, Files.content(one, two)), false);
        byte[] content = Files.content(one, two);
        for (int bytes = 1; bytes < content.length; bytes++) {
            dueContent("cut to " + bytes, java.util.Arrays.copyOf(content, bytes), false);
        }
        dueContent("one byte more", java.util.Arrays.copyOf(content, content.length + 1), false);
        for (int olds : new int[] {1, 2, 3, 128, 255}) {
            byte[] other = Files.content(one);
            other[9] = (byte) olds;
            dueContent("old values told " + olds, other, false);
        }
        dueContent("nine entries", Files.content(small(9)), false);
        dueContent("eight entries", Files.content(small(8)), true);
    }

    private static long[][] small(int entries) {
        long[][] rows = new long[entries][];
        for (int i = 0; i < entries; i++) {
            rows[i] = new long[] {i + 1, 0};
        }
        return rows;
    }

    private static void largestFile() {
        long[][] rows = new long[8][];
        for (int i = 0; i < 8; i++) {
            rows[i] = new long[] {i + 1, -1 - i, Long.MIN_VALUE + i, 1L << 7 * i};
        }
        byte[] content = Files.content(rows);
        dueContent("the largest", content, true);
        for (int more = 1; more <= 6; more++) {
            dueContent("the largest and " + more, java.util.Arrays.copyOf(content, content.length + more), false);
        }
        CrashVault vault = new CrashVault();
        vault.make(PASSWORD, 9, 1, 1000);
        for (long[] row : rows) {
            vault.put(row[0], row[3]);
            vault.put(row[0], row[2]);
            vault.put(row[0], row[1]);
        }
        Check.due("the largest: length()", vault.length(), 294);
        Check.due("the largest: save(294)", vault.save(294), true);
        Files.dueOnDisk("the largest", vault, 300, Files.file(PASSWORD, 9, 1, 2, content));
    }

    private static void newest() {
        int[][] serials = {{1, 2}, {2, 1}, {5, 5}, {-1, 1}, {1, -1}, {Integer.MIN_VALUE, Integer.MAX_VALUE},
            {Integer.MAX_VALUE, Integer.MIN_VALUE}, {-2, -1}, {0x100, 0xff}, {0, 0}};
        for (int[] pair : serials) {
            String what = "serials " + pair[0] + " and " + pair[1];
            int slot = pair[0] >= pair[1] ? 0 : 1;
            CrashVault vault = new CrashVault();
            Files.lay(vault, 0, Files.file(PASSWORD, 8, 3, pair[0], Files.content(new long[] {1, 100})));
            Files.lay(vault, 1, Files.file(PASSWORD, 9, 4, pair[1], Files.content(new long[] {1, 101})));
            Check.due(what + ": open", vault.open(PASSWORD), pair[slot]);
            Check.due(what + ": serial()", vault.serial(), pair[slot]);
            Check.due(what + ": value(1, 0)", vault.value(1, 0), 100 + slot);
            Check.due(what + ": save", vault.save(1000), true);
            Check.due(what + ": serial() saved", vault.serial(), pair[slot] + 1);
            byte[] due = Files.file(PASSWORD, 8 + slot, 3 + slot, pair[slot] + 1,
                Files.content(new long[] {1, 100 + slot}));
            Files.dueOnDisk(what, vault, 300 - 300 * slot, due);
        }
    }

    private static void serialsWrap() {
        CrashVault vault = new CrashVault();
        Files.lay(vault, 1, Files.file(PASSWORD, 9, 3, Integer.MAX_VALUE, Files.content()));
        vault.open(PASSWORD);
        vault.put(1, 1);
        Check.due("wrap: save", vault.save(1000), true);
        Check.due("wrap: serial()", vault.serial(), Integer.MIN_VALUE);
        Check.due("wrap: isGood(0)", vault.isGood(0, PASSWORD), true);
        vault.put(1, 2);
        Check.due("wrap: save again", vault.save(1000), true);
        byte[] due = Files.file(PASSWORD, 9, 3, Integer.MIN_VALUE + 1, Files.content(new long[] {1, 2, 1}));
        Files.dueOnDisk("wrap: the greatest serial stays", vault, 0, due);
        Check.due("wrap: open", vault.open(PASSWORD), Integer.MAX_VALUE);
        Check.due("wrap: entries()", vault.entries(), 0);
    }

    /** Slots of two passwords: the newest is the newest for the one that was opened. */
    private static void savesByTheOpenedPassword() {
        for (int slot = 0; slot < 2; slot++) {
            CrashVault vault = new CrashVault();
            Files.lay(vault, slot, Files.file(PASSWORD, 9, 3, 1, Files.content()));
            Files.lay(vault, 1 - slot, Files.file(77, 9, 3, 50, Files.content()));
            Check.due("two passwords: open(77)", vault.open(77), 50);
            Check.due("two passwords: open", vault.open(PASSWORD), 1);
            vault.renew(77, 3);
            Check.due("two passwords: save", vault.save(1000), true);
            Files.dueOnDisk("two passwords", vault, 300 - 300 * slot, Files.file(77, 9, 3, 2, Files.content()));
            Check.due("two passwords: isGood", vault.isGood(slot, PASSWORD), true);
            vault.save(1000);
            Files.dueOnDisk("two passwords, again", vault, 300 * slot, Files.file(77, 9, 3, 3, Files.content()));
        }
    }
}
