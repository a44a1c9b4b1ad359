import java.util.Arrays;
import java.util.NoSuchElementException;

/** The term TO SAVE, and what holds for each call that throws. */
final class SavingSentences {
    private SavingSentences() {
    }

    static void hold(Held held) {
        held.in("Terms")
            .by("TO SAVE, with a POWER of so many bytes: the serial is one more than it was",
                SavingSentences::oneMoreThanItWas)
            .by("the file of the vault with this serial is written to the slot that is not the newest good one",
                SavingSentences::notTheNewestGoodOne)
            .by("for the password that the vault had when it was opened, made, or saved last",
                SavingSentences::forThePasswordItHad)
            .by("(slot 0 if neither is good)", SavingSentences::slotZeroIfNeither)
            .by("byte after byte, as many as the power suffices for.", SavingSentences::byteAfterByte)
            .by("If it suffices for all of them, the vault is saved, and stays open.", SavingSentences::suffices)
            .by("If not, the power FAILS: the vault is shut, and what was not saved is lost.", SavingSentences::fails)
            .by("A call that throws changes nothing", SavingSentences::throwingChangesNothing)
            .by("where several exceptions that a call names fit, it is the one that it names first.",
                SavingSentences::theFirstNamed);
    }

    private static void oneMoreThanItWas() {
        CrashVault vault = Scene.made();
        for (int serial = 2; serial < 10; serial++) {
            vault.save(1000);
            Check.due("save " + serial + ": serial()", vault.serial(), serial);
            Check.due("save " + serial + ": the disk's", vault.disk(serial % 2 == 0 ? 302 : 2), serial);
        }
        vault.open(5);
        vault.save(1000);
        Check.due("opened and saved: serial()", vault.serial(), 10);
        vault.save(10);
        vault.open(5);
        vault.save(1000);
        Check.due("power failed, opened and saved: serial()", vault.serial(), 11);
        // One more than the vault's, not than the disk's greatest.
        CrashVault two = new CrashVault();
        Files.lay(two, 0, Files.file(5, 9, 3, 4, Files.content()));
        Files.lay(two, 300, Files.file(6, 9, 3, 50, Files.content()));
        two.open(5);
        two.save(1000);
        Check.due("beside a greater one: serial()", two.serial(), 5);
    }

    /** Two files for the password 5, of which the bits of spoiled tell which are no longer good. */
    private static CrashVault opened(int serial0, int serial1, int spoiled) {
        CrashVault vault = new CrashVault();
        Files.lay(vault, 0, Files.file(5, 8, 3, serial0, Files.content()));
        Files.lay(vault, 300, Files.file(5, 8, 3, serial1, Files.content()));
        vault.open(5);
        spoil(vault, spoiled);
        return vault;
    }

    private static void spoil(CrashVault vault, int spoiled) {
        if ((spoiled & 1) != 0) {
            vault.spoil(29, 1);
        }
        if ((spoiled & 2) != 0) {
            vault.spoil(329, 1);
        }
    }

    private static void dueWritten(String what, CrashVault vault, int target, byte[] file) {
        int[] other = new int[30];
        for (int i = 0; i < 30; i++) {
            other[i] = vault.disk(300 - target + i);
        }
        Check.due(what + ": save(1000)", vault.save(1000), true);
        Files.dueOnDisk(what, vault, target, file);
        for (int i = 0; i < 30; i++) {
            Check.due(what + ": disk(" + (300 - target + i) + ")", vault.disk(300 - target + i), other[i]);
        }
    }

    /** The slots as they are when it is saved, wherever the vault came from. */
    private static void notTheNewestGoodOne() {
        int[][] serials = {{1, 2}, {2, 1}, {3, 3}, {-1, 1}, {1, -1}, {Integer.MIN_VALUE, Integer.MAX_VALUE}};
        for (int[] pair : serials) {
            for (int spoiled = 0; spoiled < 3; spoiled++) {
                boolean firstIsNewest = spoiled == 0 ? pair[0] >= pair[1] : spoiled == 2;
                CrashVault vault = opened(pair[0], pair[1], spoiled);
                String what = "serials " + pair[0] + " and " + pair[1] + ", spoiled " + spoiled;
                byte[] due = Files.file(5, 8, 3, Math.max(pair[0], pair[1]) + 1, Files.content());
                dueWritten(what, vault, firstIsNewest ? 300 : 0, due);
            }
        }
        CrashVault vault = Scene.made();
        for (int serial = 2; serial < 6; serial++) {
            byte[] due = Files.file(5, 9, 3, serial, Files.content());
            dueWritten("serial " + serial, vault, serial % 2 == 0 ? 300 : 0, due);
        }
    }

    private static void forThePasswordItHad() {
        hadWhenOpened();
        hadWhenMade();
        hadWhenSavedLast();
    }

    /** Each slot is good for a password of its own, and the renewed one is the other slot's. */
    private static void hadWhenOpened() {
        for (int slot = 0; slot < 2; slot++) {
            CrashVault vault = new CrashVault();
            Files.lay(vault, 300 * slot, Files.file(5, 9, 3, 1, Files.content()));
            Files.lay(vault, 300 - 300 * slot, Files.file(6, 9, 3, 50, Files.content()));
            vault.open(5);
            vault.renew(6, 3);
            byte[] due = Files.file(6, 9, 3, 2, Files.content());
            dueWritten("opened, in slot " + slot, vault, 300 - 300 * slot, due);
            Check.due("opened, in slot " + slot + ": isGood(" + slot + ", 5)", vault.isGood(slot, 5), true);
        }
    }

    private static void hadWhenMade() {
        CrashVault vault = Scene.made();
        vault.renew(6, 3);
        dueWritten("made and renewed", vault, 300, Files.file(6, 9, 3, 2, Files.content()));
        // Whoever was open before it, the password is the made vault's.
        CrashVault again = Scene.changed();
        again.make(8, 9, 3, 1000);
        dueWritten("made over another", again, 300, Files.file(8, 9, 3, 2, Files.content()));
    }

    private static void hadWhenSavedLast() {
        CrashVault vault = Scene.made();
        vault.save(1000);
        vault.save(1000);
        vault.renew(6, 1);
        dueWritten("renewed", vault, 300, Files.file(6, 9, 1, 4, Files.content()));
        dueWritten("renewed and saved", vault, 0, Files.file(6, 9, 1, 5, Files.content()));
        vault.renew(7, 2);
        vault.renew(5, 40);
        dueWritten("renewed twice", vault, 300, Files.file(5, 9, 40, 6, Files.content()));
        dueWritten("renewed twice and saved", vault, 0, Files.file(5, 9, 40, 7, Files.content()));
    }

    private static void slotZeroIfNeither() {
        int[][] serials = {{1, 2}, {2, 1}, {3, 3}};
        for (int[] pair : serials) {
            String what = "serials " + pair[0] + " and " + pair[1];
            byte[] due = Files.file(5, 8, 3, Math.max(pair[0], pair[1]) + 1, Files.content());
            dueWritten(what + ", both spoiled", opened(pair[0], pair[1], 3), 0, due);
        }
        CrashVault made = Scene.made();
        made.spoil(0, 1);
        dueWritten("made, spoiled", made, 0, Files.file(5, 9, 3, 2, Files.content()));
        // Good for another password alone is not good for this one.
        CrashVault others = Scene.made();
        others.renew(6, 3);
        others.save(1000);
        others.spoil(320, 4);
        dueWritten("good for another alone", others, 0, Files.file(6, 9, 3, 3, Files.content()));
    }

    private static CrashVault toBeSaved(int saves) {
        CrashVault vault = Scene.made();
        vault.put(7, 1);
        vault.put(8, 1);
        for (int save = 0; save < saves; save++) {
            vault.save(1000);
        }
        vault.remove(7);
        vault.put(8, 2);
        return vault;
    }

    /** The first bytes are the new file's, and each byte behind them is what it was, in both slots. */
    private static void byteAfterByte() {
        byte[] short1 = Files.file(5, 9, 3, 1, Files.content());
        for (int saves = 1; saves <= 2; saves++) {
            byte[] long2 = Files.file(5, 9, 3, 2, Files.content(new long[] {7, 1}, new long[] {8, 1}));
            byte[] long3 = Files.file(5, 9, 3, 3, Files.content(new long[] {7, 1}, new long[] {8, 1}));
            byte[] now = Files.file(5, 9, 3, saves + 2, Files.content(new long[] {8, 2, 1}));
            byte[] over = saves == 1 ? short1 : long2;
            byte[] kept = saves == 1 ? long2 : long3;
            for (int power = 0; power <= now.length + 1; power++) {
                byte[] due = Arrays.copyOf(over, 300);
                System.arraycopy(now, 0, due, 0, Math.min(power, now.length));
                int many = saves;
                int bytes = power;
                Files.dueOnWholeDisk(saves + " saves, then save(" + power + ")", () -> {
                    CrashVault vault = toBeSaved(many);
                    vault.save(bytes);
                    return vault;
                }, saves == 1 ? due : kept, saves == 1 ? kept : due);
            }
        }
    }

    private static void suffices() {
        for (int entries = 0; entries <= 8; entries++) {
            int length = 30 + 25 * entries;
            for (int power : new int[] {length, length + 1, 600, Integer.MAX_VALUE}) {
                CrashVault vault = Scene.made();
                Files.put(vault, Files.rows(entries, 1));
                String told = Told.entries(vault);
                String call = entries + " entries: save(" + power + ")";
                Check.due(call, vault.save(power), true);
                Check.due(call + ": isOpen()", vault.isOpen(), true);
                Check.due(call + ": serial()", vault.serial(), 2);
                Check.due(call + ": the entries", Told.entries(vault), told);
                Check.due(call + ": isGood(1, 5)", vault.isGood(1, 5), true);
                vault.shut();
                Check.due(call + ": open(5)", vault.open(5), 2);
                Check.due(call + ": the entries opened", Told.entries(vault), told);
            }
        }
    }

    private static void fails() {
        for (int entries = 0; entries <= 8; entries++) {
            int length = 30 + 25 * entries;
            for (int power : new int[] {0, 1, length / 2, length - 1}) {
                CrashVault vault = Scene.made();
                Files.put(vault, Files.rows(entries, 1));
                String call = entries + " entries: save(" + power + ")";
                Check.due(call, vault.save(power), false);
                Check.due(call + ": isOpen()", vault.isOpen(), false);
                Check.refused(call + ": serial()", IllegalStateException.class, vault::serial);
                Check.refused(call + ": entries()", IllegalStateException.class, vault::entries);
                Check.refused(call + ": save(1000)", IllegalStateException.class, () -> vault.save(1000));
                Check.due(call + ": shut()", vault.shut(), false);
                Check.due(call + ": open(5)", vault.open(5), 1);
                Check.due(call + ": entries() opened", vault.entries(), 0);
            }
        }
        failsOverWhatStoodThere();
        failsBeforeTheRenewedIsSaved();
    }

    /** The power fails before the last byte, which was there already: shut, and opened as it is saved now. */
    private static void failsOverWhatStoodThere() {
        byte[] now = Files.file(5, 9, 3, 2, Files.content(new long[] {1, 1}));
        CrashVault vault = Scene.made();
        vault.put(1, 1);
        vault.spoil(300 + now.length - 1, now[now.length - 1]);
        Check.due("the last byte was there: save(" + (now.length - 1) + ")", vault.save(now.length - 1), false);
        Check.due("the last byte was there: isOpen()", vault.isOpen(), false);
        Check.due("the last byte was there: isGood(1, 5)", vault.isGood(1, 5), true);
        Check.due("the last byte was there: open(5)", vault.open(5), 2);
        CrashVault whole = Scene.made();
        whole.put(1, 1);
        Files.lay(whole, 300, now);
        // The slot that is laid is the newest good one now, so the save goes over slot 0.
        Check.due("the whole file was there: save(0)", whole.save(0), false);
        Check.due("the whole file was there: isOpen()", whole.isOpen(), false);
        Check.due("the whole file was there: open(5)", whole.open(5), 2);
        Check.due("the whole file was there: isGood(0, 5)", whole.isGood(0, 5), true);
    }

    private static void failsBeforeTheRenewedIsSaved() {
        CrashVault vault = Scene.made();
        vault.renew(6, 4);
        Check.due("renewed: save(29)", vault.save(29), false);
        Check.refused("renewed without power: open(6)", NoSuchElementException.class, () -> vault.open(6));
        Check.due("renewed without power: open(5)", vault.open(5), 1);
        dueWritten("renewed without power", vault, 300, Files.file(5, 9, 3, 2, Files.content()));
    }

    /** One wrong call of each kind, on every vault that refuses it. */
    private static void throwingChangesNothing() {
        Refusal.everywhere("make(6, 1, 0, 1000)", IllegalArgumentException.class, v -> v.make(6, 1, 0, 1000));
        Refusal.everywhere("make(6, 1, 1, -1)", IllegalArgumentException.class, v -> v.make(6, 1, 1, -1));
        Refusal.everywhere("open(7)", NoSuchElementException.class, v -> v.open(Scene.NOBODYS));
        Refusal.in(Scene.SHUT, "length()", IllegalStateException.class, CrashVault::length);
        Refusal.in(Scene.SHUT, "save(1000)", IllegalStateException.class, v -> v.save(1000));
        Refusal.in(Scene.OPEN, "save(-1)", IllegalArgumentException.class, v -> v.save(-1));
        Refusal.in(Scene.SHUT, "renew(7, 2)", IllegalStateException.class, v -> v.renew(7, 2));
        Refusal.in(Scene.OPEN, "renew(7, 41)", IllegalArgumentException.class, v -> v.renew(7, 41));
        Refusal.in(Scene.SHUT, "serial()", IllegalStateException.class, CrashVault::serial);
        Refusal.in(Scene.SHUT, "put(1, 77)", IllegalStateException.class, v -> v.put(1, 77));
        Refusal.in(Scene.OPEN, "put(0, 77)", IllegalArgumentException.class, v -> v.put(0, 77));
        Refusal.in(Scene.SHUT, "remove(1)", IllegalStateException.class, v -> v.remove(1));
        Refusal.in(Scene.SHUT, "entries()", IllegalStateException.class, CrashVault::entries);
        Refusal.in(Scene.SHUT, "name(0)", IllegalStateException.class, v -> v.name(0));
        Refusal.in(Scene.OPEN, "name(8)", IndexOutOfBoundsException.class, v -> v.name(8));
        Refusal.in(Scene.SHUT, "value(1, 0)", IllegalStateException.class, v -> v.value(1, 0));
        Refusal.in(Scene.OPEN, "value(1, 3)", IndexOutOfBoundsException.class, v -> v.value(1, 3));
        Refusal.in(Scene.OPEN, "value(99, 0)", NoSuchElementException.class, v -> v.value(99, 0));
        Refusal.everywhere("disk(600)", IndexOutOfBoundsException.class, v -> v.disk(600));
        Refusal.everywhere("spoil(600, 255)", IndexOutOfBoundsException.class, v -> v.spoil(600, 255));
        Refusal.everywhere("isGood(2, 5)", IndexOutOfBoundsException.class, v -> v.isGood(2, 5));
    }

    private static void theFirstNamed() {
        for (int power : new int[] {-1, Integer.MIN_VALUE}) {
            Refusal.in(Scene.SHUT, "save(" + power + ")", IllegalStateException.class, v -> v.save(power));
        }
        for (int rounds : new int[] {0, 41, -1}) {
            Refusal.in(Scene.SHUT, "renew(6, " + rounds + ")", IllegalStateException.class, v -> v.renew(6, rounds));
        }
        Refusal.in(Scene.SHUT, "put(0, 1)", IllegalStateException.class, v -> v.put(0, 1));
        for (Scene scene : Scene.OPEN) {
            boolean full = scene.name().equals("full");
            Check.due(scene.name() + ": is full", scene.vault().get().entries() == 8, full);
            if (full) {
                Refusal.in(scene, "put(0, 1)", IllegalArgumentException.class, v -> v.put(0, 1));
                Refusal.in(scene, "put(11, 1)", UnsupportedOperationException.class, v -> v.put(11, 1));
            }
        }
        for (int i : new int[] {-1, 0, 8}) {
            Refusal.in(Scene.SHUT, "name(" + i + ")", IllegalStateException.class, v -> v.name(i));
        }
        for (int back : new int[] {-1, 0, 2, 3}) {
            Refusal.in(Scene.SHUT, "value(99, " + back + ")", IllegalStateException.class, v -> v.value(99, back));
            Refusal.in(Scene.SHUT, "value(0, " + back + ")", IllegalStateException.class, v -> v.value(0, back));
        }
        for (int back : new int[] {-1, 3}) {
            Refusal.in(Scene.OPEN, "value(99, " + back + ")", IndexOutOfBoundsException.class, v -> v.value(99, back));
            Refusal.in(Scene.OPEN, "value(0, " + back + ")", IndexOutOfBoundsException.class, v -> v.value(0, back));
        }
        fullAndShut();
    }

    /** Eight entries were there when it was shut; a new name is not refused for that. */
    private static void fullAndShut() {
        Scene shut = new Scene("full and shut", false, () -> {
            CrashVault vault = Scene.full();
            vault.shut();
            return vault;
        });
        Refusal.in(shut, "put(11, 1)", IllegalStateException.class, v -> v.put(11, 1));
        Refusal.in(shut, "put(0, 1)", IllegalStateException.class, v -> v.put(0, 1));
        Refusal.in(shut, "name(0)", IllegalStateException.class, v -> v.name(0));
        Refusal.in(shut, "value(10, 0)", IllegalStateException.class, v -> v.value(10, 0));
    }
}
