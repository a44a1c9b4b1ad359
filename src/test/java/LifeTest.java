import java.util.NoSuchElementException;

/** Promises 1 to 5: a new object, make, open, shut, isOpen. */
public final class LifeTest {
    public static void main(String[] args) {
        newObject();
        makeRefuses();
        makeTakesTheEdges();
        makeBeginsAnew();
        makeWithoutPower();
        openTakesTheSavedVault();
        openRefuses();
        shutLosesWhatWasNotSaved();
        Check.end();
    }

    private static void newObject() {
        CrashVault vault = new CrashVault();
        Check.due("new: isOpen()", vault.isOpen(), false);
        Check.due("new: shut()", vault.shut(), false);
        for (int i = 0; i < 500; i++) {
            Check.due("new: disk(" + i + ")", vault.disk(i), 0);
        }
        vault = new CrashVault();
        for (int i = 500; i < 600; i++) {
            Check.due("new: disk(" + i + ")", vault.disk(i), 0);
        }
        CrashVault other = vault;
        Check.refused("new: open(0)", NoSuchElementException.class, () -> other.open(0));
    }

    private static void makeRefuses() {
        CrashVault vault = new CrashVault();
        vault.make(5, 9, 3, 1000);
        vault.put(1, 11);
        int[][] wrong = {{0, 1000}, {41, 1000}, {-1, 1000}, {257, 1000}, {Integer.MIN_VALUE, 1000}, {1, -1},
            {40, Integer.MIN_VALUE}, {0, -1}};
        for (int[] w : wrong) {
            Check.refused("make(6, 9, " + w[0] + ", " + w[1] + ")", IllegalArgumentException.class,
                () -> vault.make(6, 9, w[0], w[1]));
        }
        Check.due("refused: value(1, 0)", vault.value(1, 0), 11);
        Check.due("refused: serial()", vault.serial(), 1);
        Check.due("refused: isGood(0, 5)", vault.isGood(0, 5), true);
        Check.due("refused: save(1000)", vault.save(1000), true);
        Check.due("refused: isGood(1, 5)", vault.isGood(1, 5), true);
    }

    private static void makeTakesTheEdges() {
        long[] passwords = {0, -1, Long.MIN_VALUE, Long.MAX_VALUE, 0x123456789abcdefL};
        int[] salts = {0, -1, Integer.MIN_VALUE, 0x01020304, 77};
        int[] rounds = {1, 40, 2, 39, 17};
        for (int i = 0; i < passwords.length; i++) {
            CrashVault vault = new CrashVault();
            Check.due("make " + i, vault.make(passwords[i], salts[i], rounds[i], Integer.MAX_VALUE), true);
            Check.due("make " + i + ": isOpen()", vault.isOpen(), true);
            Check.due("make " + i + ": serial()", vault.serial(), 1);
            byte[] due = Files.file(passwords[i], salts[i], rounds[i], 1, Files.content());
            Files.dueOnDisk("make " + i, vault, 0, due);
            for (int at = due.length; at < due.length + 300; at++) {
                Check.due("make " + i + ": disk(" + at + ")", vault.disk(at), 0);
            }
        }
    }

    private static void makeBeginsAnew() {
        CrashVault vault = new CrashVault();
        vault.make(5, 9, 3, 1000);
        vault.put(1, 11);
        vault.save(1000);
        vault.renew(8, 7);
        vault.spoil(599, 255);
        vault.spoil(299, 1);
        Check.due("anew: make", vault.make(6, 10, 4, 30), true);
        Check.due("anew: entries()", vault.entries(), 0);
        Check.due("anew: serial()", vault.serial(), 1);
        Check.due("anew: isGood(1, 5)", vault.isGood(1, 5), false);
        Check.due("anew: disk(599)", vault.disk(599), 0);
        Check.due("anew: disk(299)", vault.disk(299), 0);
        Check.due("anew: disk(300)", vault.disk(300), 0);
        Files.dueOnDisk("anew", vault, 0, Files.file(6, 10, 4, 1, Files.content()));
        vault.put(2, 22);
        Check.due("anew: save", vault.save(1000), true);
        Files.dueOnDisk("anew, saved", vault, 300, Files.file(6, 10, 4, 2, Files.content(new long[] {2, 22})));
    }

    private static void makeWithoutPower() {
        byte[] whole = Files.file(5, 9, 2, 1, Files.content());
        for (int power = 0; power < 30; power++) {
            CrashVault vault = new CrashVault();
            vault.make(5, 9, 2, 1000);
            vault.put(1, 1);
            vault.save(1000);
            Check.due("make with power " + power, vault.make(5, 9, 2, power), false);
            Check.due("made with power " + power + ": isOpen()", vault.isOpen(), false);
            Check.due("made with power " + power + ": isGood(0, 5)", vault.isGood(0, 5), false);
            Check.due("made with power " + power + ": isGood(1, 5)", vault.isGood(1, 5), false);
            for (int i = 0; i < 60; i++) {
                Check.due("made with power " + power + ": disk(" + i + ")", vault.disk(i),
                    i < power ? whole[i] & 0xff : 0);
            }
            Check.refused("made with power " + power + ": open(5)", NoSuchElementException.class,
                () -> vault.open(5));
        }
    }

    private static void openTakesTheSavedVault() {
        CrashVault vault = new CrashVault();
        vault.make(5, -9, 3, 1000);
        vault.put(-4, 1);
        vault.put(-4, 2);
        vault.put(-4, 3);
        vault.put(9, Long.MIN_VALUE);
        vault.save(1000);
        vault.put(9, 0);
        vault.remove(-4);
        vault.renew(6, 5);
        Check.due("open over an open one: open(5)", vault.open(5), 2);
        Check.due("opened: isOpen()", vault.isOpen(), true);
        Check.due("opened: serial()", vault.serial(), 2);
        Check.due("opened: entries()", vault.entries(), 2);
        Check.due("opened: value(-4, 0)", vault.value(-4, 0), 3);
        Check.due("opened: value(-4, 1)", vault.value(-4, 1), 2);
        Check.due("opened: value(-4, 2)", vault.value(-4, 2), 1);
        Check.due("opened: value(9, 0)", vault.value(9, 0), Long.MIN_VALUE);
        Check.refused("opened: value(9, 1)", NoSuchElementException.class, () -> vault.value(9, 1));
        vault.save(1000);
        byte[] due = Files.file(5, -9, 3, 3, Files.content(new long[] {-4, 3, 2, 1}, new long[] {9, Long.MIN_VALUE}));
        Files.dueOnDisk("opened and saved keeps salt, rounds and password", vault, 0, due);
    }

    private static void openRefuses() {
        CrashVault vault = new CrashVault();
        vault.make(5, 9, 3, 1000);
        vault.put(1, 11);
        vault.renew(7, 6);
        Check.refused("open(6)", NoSuchElementException.class, () -> vault.open(6));
        Check.refused("open(7) before the save", NoSuchElementException.class, () -> vault.open(7));
        Check.refused("open of the low half", NoSuchElementException.class, () -> vault.open(5 | 1L << 32));
        Check.due("refused: isOpen()", vault.isOpen(), true);
        Check.due("refused: value(1, 0)", vault.value(1, 0), 11);
        Check.due("refused: save", vault.save(1000), true);
        Files.dueOnDisk("refused", vault, 300, Files.file(7, 9, 6, 2, Files.content(new long[] {1, 11})));
        vault.shut();
        Check.refused("shut: open(8)", NoSuchElementException.class, () -> vault.open(8));
        Check.due("shut: isOpen()", vault.isOpen(), false);
    }

    private static void shutLosesWhatWasNotSaved() {
        CrashVault vault = new CrashVault();
        vault.make(5, 9, 3, 1000);
        vault.put(1, 11);
        Check.due("shut()", vault.shut(), true);
        Check.due("shut: isOpen()", vault.isOpen(), false);
        Check.due("shut() again", vault.shut(), false);
        Check.due("open(5)", vault.open(5), 1);
        Check.due("open: isOpen()", vault.isOpen(), true);
        Check.due("entries()", vault.entries(), 0);
        Check.due("disk(300)", vault.disk(300), 0);
    }
}
