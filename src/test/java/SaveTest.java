import java.util.NoSuchElementException;

/** Promises 6 to 9: length, save, renew, serial. */
public final class SaveTest {
    public static void main(String[] args) {
        refusedWhenShut();
        lengthOfTheFile();
        saveRefuses();
        savesGoToAndFro();
        savesIntoTheWorseSlot();
        powerFailsAtEveryByte();
        powerFailsLeavesTheOlderFilesRest();
        renewed();
        renewRefuses();
        renewIsLost();
        Check.end();
    }

    private static void refusedWhenShut() {
        CrashVault vault = new CrashVault();
        for (int time = 0; time < 2; time++) {
            Check.refused("shut: length()", IllegalStateException.class, vault::length);
            Check.refused("shut: save(1000)", IllegalStateException.class, () -> vault.save(1000));
            Check.refused("shut: save(-1)", IllegalStateException.class, () -> vault.save(-1));
            Check.refused("shut: renew(1, 1)", IllegalStateException.class, () -> vault.renew(1, 1));
            Check.refused("shut: renew(1, 0)", IllegalStateException.class, () -> vault.renew(1, 0));
            Check.refused("shut: serial()", IllegalStateException.class, vault::serial);
            vault.make(5, 9, 3, 1000);
            vault.shut();
        }
    }

    private static void lengthOfTheFile() {
        CrashVault vault = new CrashVault();
        vault.make(5, 9, 3, 1000);
        int due = 30;
        Check.due("length() of none", vault.length(), due);
        for (int i = 1; i <= 8; i++) {
            for (int v = 0; v < 5; v++) {
                vault.put(i, v);
                due += v == 0 ? 17 : v < 3 ? 8 : 0;
                Check.due("length() of " + i + " with " + v, vault.length(), due);
            }
        }
        Check.due("length() at most", vault.length(), 294);
        vault.renew(7, 40);
        Check.due("length() renewed", vault.length(), 294);
        Check.due("save(293)", vault.save(293), false);
        vault.open(5);
        Check.due("length() opened", vault.length(), 30);
    }

    private static void saveRefuses() {
        CrashVault vault = new CrashVault();
        vault.make(5, 9, 3, 1000);
        vault.put(1, 1);
        Check.refused("save(-1)", IllegalArgumentException.class, () -> vault.save(-1));
        Check.refused("save(MIN)", IllegalArgumentException.class, () -> vault.save(Integer.MIN_VALUE));
        Check.due("refused: isOpen()", vault.isOpen(), true);
        Check.due("refused: serial()", vault.serial(), 1);
        Check.due("refused: entries()", vault.entries(), 1);
        Check.due("refused: disk(300)", vault.disk(300), 0);
        Check.due("save(47)", vault.save(47), true);
        Check.due("saved: serial()", vault.serial(), 2);
        Check.due("saved: isOpen()", vault.isOpen(), true);
    }

    private static void savesGoToAndFro() {
        CrashVault vault = new CrashVault();
        vault.make(5, 9, 3, 1000);
        for (int serial = 2; serial < 8; serial++) {
            vault.put(1, serial);
            Check.due("save " + serial, vault.save(Integer.MAX_VALUE), true);
            Check.due("saved " + serial + ": serial()", vault.serial(), serial);
            long[] entry = serial == 2 ? new long[] {1, 2}
                : serial == 3 ? new long[] {1, 3, 2}
                : new long[] {1, serial, serial - 1, serial - 2};
            byte[] due = Files.file(5, 9, 3, serial, Files.content(entry));
            Files.dueOnDisk("saved " + serial, vault, serial % 2 == 0 ? 300 : 0, due);
            Check.due("saved " + serial + ": isGood(0, 5)", vault.isGood(0, 5), true);
            Check.due("saved " + serial + ": isGood(1, 5)", vault.isGood(1, 5), true);
        }
    }

    /** The slot depends on what is good when it is saved, not on where the vault came from. */
    private static void savesIntoTheWorseSlot() {
        for (int spoiled = 0; spoiled < 4; spoiled++) {
            CrashVault vault = new CrashVault();
            vault.make(5, 9, 3, 1000);
            vault.save(1000);
            if ((spoiled & 1) != 0) {
                vault.spoil(25, 4);
            }
            if ((spoiled & 2) != 0) {
                vault.spoil(325, 4);
            }
            Check.due("spoiled " + spoiled + ": save", vault.save(1000), true);
            int target = spoiled == 2 ? 1 : 0;
            byte[] due = Files.file(5, 9, 3, 3, Files.content());
            Files.dueOnDisk("spoiled " + spoiled, vault, 300 * target, due);
            Check.due("spoiled " + spoiled + ": the other serial", vault.disk(302 - 300 * target),
                target == 0 ? 2 : 1);
            Check.due("spoiled " + spoiled + ": open(5)", vault.open(5), 3);
        }
    }

    private static void powerFailsAtEveryByte() {
        byte[] whole = Files.file(5, 9, 2, 3, Files.content(new long[] {7, 2, 1}));
        for (int power = 0; power <= whole.length; power++) {
            CrashVault vault = new CrashVault();
            vault.make(5, 9, 2, 1000);
            vault.put(7, 1);
            vault.save(1000);
            vault.put(7, 2);
            boolean saved = power == whole.length;
            Check.due("save(" + power + ")", vault.save(power), saved);
            Check.due("save(" + power + "): isOpen()", vault.isOpen(), saved);
            if (!saved) {
                Check.refused("save(" + power + "): serial()", IllegalStateException.class, vault::serial);
            }
            Check.due("save(" + power + "): open(5)", vault.open(5), saved ? 3 : 2);
            Check.due("save(" + power + "): value(7, 0)", vault.value(7, 0), saved ? 2 : 1);
            for (int i = 30; i < whole.length; i++) {
                Check.due("save(" + power + "): disk(" + i + ")", vault.disk(i), i < power ? whole[i] & 0xff : 0);
            }
        }
    }

    private static void powerFailsLeavesTheOlderFilesRest() {
        CrashVault vault = new CrashVault();
        vault.make(5, 9, 2, 1000);
        vault.put(7, 1);
        vault.put(8, 1);
        vault.save(1000);
        vault.save(1000);
        byte[] older = Files.file(5, 9, 2, 2, Files.content(new long[] {7, 1}, new long[] {8, 1}));
        vault.remove(7);
        byte[] newer = Files.file(5, 9, 2, 4, Files.content(new long[] {8, 1}));
        Check.due("save(40)", vault.save(40), false);
        for (int i = 0; i < older.length; i++) {
            Check.due("disk(" + (300 + i) + ")", vault.disk(300 + i), (i < 40 ? newer : older)[i] & 0xff);
        }
        vault.open(5);
        vault.remove(7);
        Check.due("save(1000) after it", vault.save(1000), true);
        Files.dueOnDisk("a short file over a long one", vault, 300, newer);
        Check.due("a short file over a long one: the rest", vault.disk(300 + newer.length),
            older[newer.length] & 0xff);
        Check.due("a short file over a long one: isGood(1, 5)", vault.isGood(1, 5), true);
    }

    private static void renewed() {
        CrashVault vault = new CrashVault();
        vault.make(5, 9, 3, 1000);
        vault.save(1000);
        vault.save(1000);
        vault.renew(6, 40);
        vault.renew(7, 1);
        Check.due("renewed: serial()", vault.serial(), 3);
        Check.due("renewed: isGood(0, 5)", vault.isGood(0, 5), true);
        Check.due("renewed: isGood(0, 7)", vault.isGood(0, 7), false);
        Check.due("renewed: save", vault.save(1000), true);
        Files.dueOnDisk("renewed", vault, 300, Files.file(7, 9, 1, 4, Files.content()));
        Check.due("renewed: isGood(0, 5)", vault.isGood(0, 5), true);
        Check.due("renewed: save again", vault.save(1000), true);
        Files.dueOnDisk("renewed again", vault, 0, Files.file(7, 9, 1, 5, Files.content()));
        vault.renew(7, 2);
        Check.due("other rounds alone: save", vault.save(1000), true);
        Files.dueOnDisk("other rounds alone", vault, 300, Files.file(7, 9, 2, 6, Files.content()));
        Check.refused("renewed: open(5)", NoSuchElementException.class, () -> vault.open(5));
        Check.due("renewed: open(7)", vault.open(7), 6);
    }

    private static void renewRefuses() {
        CrashVault vault = new CrashVault();
        vault.make(5, 9, 3, 1000);
        for (int rounds : new int[] {0, 41, -1, 257, Integer.MAX_VALUE, Integer.MIN_VALUE}) {
            Check.refused("renew(6, " + rounds + ")", IllegalArgumentException.class, () -> vault.renew(6, rounds));
        }
        vault.save(1000);
        Files.dueOnDisk("renew refused", vault, 300, Files.file(5, 9, 3, 2, Files.content()));
    }

    private static void renewIsLost() {
        CrashVault vault = new CrashVault();
        vault.make(5, 9, 3, 1000);
        vault.renew(6, 4);
        vault.shut();
        Check.refused("renewed and shut: open(6)", NoSuchElementException.class, () -> vault.open(6));
        vault.open(5);
        vault.renew(6, 4);
        Check.due("renewed: save(29)", vault.save(29), false);
        Check.refused("renewed without power: open(6)", NoSuchElementException.class, () -> vault.open(6));
        Check.due("renewed without power: open(5)", vault.open(5), 1);
        vault.save(1000);
        Files.dueOnDisk("renewed without power", vault, 300, Files.file(5, 9, 3, 2, Files.content()));
    }
}
