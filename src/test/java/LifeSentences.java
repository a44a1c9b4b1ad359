import java.util.ArrayList;
import java.util.List;
import java.util.NoSuchElementException;

/** Promises 1 to 5: a new object, make, open, shut, isOpen. */
final class LifeSentences {
    private LifeSentences() {
    }

    static void hold(Held held) {
        held.in("Promise 1: A new object")
            .by("The disk is all 0", LifeSentences::newDisk)
            .by("the vault is shut.", LifeSentences::newVault);
        held.in("Promise 2: make")
            .by("Makes a new vault without entries, and opens it, whatever was open", LifeSentences::makeWhateverWasOpen)
            .by("the disk becomes all 0, the serial is 0; then it is saved: true", LifeSentences::makeSavesOnAnEmptyDisk)
            .by("false when power fails.", LifeSentences::makeWithoutPower)
            .by("IllegalArgumentException when rounds is not 1 .. 40", LifeSentences::makeRefusesRounds)
            .by("or power is negative.", LifeSentences::makeRefusesPower);
        held.in("Promise 3: open")
            .by("Opens the vault of the newest good slot for the password", LifeSentences::openTakesTheNewest)
            .by("whatever was open: its serial.", LifeSentences::openWhateverWasOpen)
            .by("NoSuchElementException when no slot is good.", LifeSentences::openRefuses);
        held.in("Promise 4: shut")
            .by("The vault is shut, what was not saved is lost", LifeSentences::shutLoses)
            .by("whether it was open.", LifeSentences::shutTells);
        held.in("Promise 5: isOpen")
            .by("Whether the vault is open.", LifeSentences::isOpenTells);
    }

    private static List<Scene> scenes() {
        List<Scene> all = new ArrayList<>(Scene.SHUT);
        all.addAll(Scene.OPEN);
        return all;
    }

    private static void newDisk() {
        Files.dueOnWholeDisk("new", CrashVault::new, new byte[0], new byte[0]);
        // Nor does one object's disk come from another's.
        Scene.full();
        Files.dueOnWholeDisk("new, after another", CrashVault::new, new byte[0], new byte[0]);
    }

    private static void newVault() {
        CrashVault vault = new CrashVault();
        Check.due("isOpen()", vault.isOpen(), false);
        Check.due("shut()", vault.shut(), false);
        Check.refused("length()", IllegalStateException.class, vault::length);
        Check.refused("save(1000)", IllegalStateException.class, () -> vault.save(1000));
        Check.refused("renew(5, 1)", IllegalStateException.class, () -> vault.renew(5, 1));
        Check.refused("serial()", IllegalStateException.class, vault::serial);
        Check.refused("put(1, 1)", IllegalStateException.class, () -> vault.put(1, 1));
        Check.refused("remove(1)", IllegalStateException.class, () -> vault.remove(1));
        Check.refused("entries()", IllegalStateException.class, vault::entries);
        Check.refused("name(0)", IllegalStateException.class, () -> vault.name(0));
        Check.refused("value(1, 0)", IllegalStateException.class, () -> vault.value(1, 0));
        Check.refused("open(0)", NoSuchElementException.class, () -> vault.open(0));
        Check.due("isGood(0, 0)", vault.isGood(0, 0), false);
        Check.due("isGood(1, 0)", vault.isGood(1, 0), false);
        Check.due("isOpen() after all this", vault.isOpen(), false);
    }

    private static void makeWhateverWasOpen() {
        for (Scene scene : scenes()) {
            CrashVault vault = scene.vault().get();
            String what = scene.name() + ", make(8, 10, 4, 30)";
            Check.due(what, vault.make(8, 10, 4, 30), true);
            Check.due(what + ": isOpen()", vault.isOpen(), true);
            Check.due(what + ": the vault", Told.vault(vault), "serial 1, length 30: ");
            Check.due(what + ": good for 5 and 6", Told.good(vault, 5, 6), "false false; false false; ");
            Check.refused(what + ": name(0)", IndexOutOfBoundsException.class, () -> vault.name(0));
            Check.refused(what + ": value(1, 0)", NoSuchElementException.class, () -> vault.value(1, 0));
            Check.due(what + ": put(1, 2)", vault.put(1, 2), true);
            Check.refused(what + ": value(1, 1)", NoSuchElementException.class, () -> vault.value(1, 1));
            Check.due(what + ": save(1000)", vault.save(1000), true);
            Files.dueOnDisk(what + ", saved", vault, 300,
                Files.file(8, 10, 4, 2, Files.content(new long[] {1, 2})));
        }
    }

    private static void makeSavesOnAnEmptyDisk() {
        byte[] due = Files.file(8, 10, 4, 1, Files.content());
        for (Scene scene : scenes()) {
            Files.dueOnWholeDisk(scene.name() + ", made", () -> {
                CrashVault vault = scene.vault().get();
                Check.due(scene.name() + ", make(8, 10, 4, 1000)", vault.make(8, 10, 4, 1000), true);
                return vault;
            }, due, new byte[0]);
        }
        CrashVault vault = new CrashVault();
        vault.spoil(0, 255);
        vault.spoil(299, 255);
        vault.spoil(300, 255);
        vault.spoil(599, 255);
        vault.make(8, 10, 4, 0);
        for (int i : new int[] {0, 299, 300, 599}) {
            Check.due("spoiled, made without power: disk(" + i + ")", vault.disk(i), 0);
        }
    }

    /** 29 bytes are too few for an empty vault's file, 30 suffice; of the vault before nothing is left. */
    private static void makeWithoutPower() {
        byte[] whole = Files.file(8, 10, 4, 1, Files.content());
        for (int power = 0; power <= 31; power++) {
            byte[] due = java.util.Arrays.copyOf(whole, Math.min(power, 30));
            for (Scene scene : List.of(Scene.SHUT.get(0), Scene.OPEN.get(1))) {
                int bytes = power;
                String what = scene.name() + ", make(8, 10, 4, " + power + ")";
                Files.dueOnWholeDisk(what, () -> made(scene, bytes), due, new byte[0]);
                CrashVault vault = made(scene, power);
                Check.due(what + ": isOpen()", vault.isOpen(), power >= 30);
                Check.due(what + ": good", Told.good(vault, 8, 5, 6),
                    (power >= 30) + " false; false false; false false; ");
                Check.refused(what + ": open(5)", NoSuchElementException.class, () -> vault.open(5));
                if (power < 30) {
                    Check.refused(what + ": serial()", IllegalStateException.class, vault::serial);
                    Check.refused(what + ": open(8)", NoSuchElementException.class, () -> vault.open(8));
                }
            }
        }
    }

    private static CrashVault made(Scene scene, int power) {
        CrashVault vault = scene.vault().get();
        Check.due(scene.name() + ", make(8, 10, 4, " + power + ")", vault.make(8, 10, 4, power), power >= 30);
        return vault;
    }

    private static void makeRefusesRounds() {
        for (int rounds : new int[] {0, 41, -1, 256 + 1, 1 << 16 | 1, Integer.MIN_VALUE, Integer.MAX_VALUE}) {
            Refusal.everywhere("make(8, 10, " + rounds + ", 1000)", IllegalArgumentException.class,
                vault -> vault.make(8, 10, rounds, 1000));
        }
        for (int rounds : new int[] {1, 2, 39, 40}) {
            CrashVault vault = new CrashVault();
            Check.due("make(8, 10, " + rounds + ", 1000)", vault.make(8, 10, rounds, 1000), true);
            Check.due("make(8, 10, " + rounds + ", 1000): disk(10)", vault.disk(10), rounds);
        }
        Refusal.everywhere("make(8, 10, 0, 0)", IllegalArgumentException.class, vault -> vault.make(8, 10, 0, 0));
    }

    private static void makeRefusesPower() {
        for (int power : new int[] {-1, -30, -1000, Integer.MIN_VALUE}) {
            Refusal.everywhere("make(8, 10, 1, " + power + ")", IllegalArgumentException.class,
                vault -> vault.make(8, 10, 1, power));
        }
        Refusal.everywhere("make(8, 10, 41, -1)", IllegalArgumentException.class, vault -> vault.make(8, 10, 41, -1));
        CrashVault vault = new CrashVault();
        Check.due("make(8, 10, 1, 0)", vault.make(8, 10, 1, 0), false);
        Check.due("make(8, 10, 1, MAX)", vault.make(8, 10, 1, Integer.MAX_VALUE), true);
    }

    private static CrashVault laid(byte[] slot0, byte[] slot1) {
        CrashVault vault = new CrashVault();
        Files.lay(vault, 0, slot0);
        Files.lay(vault, 300, slot1);
        return vault;
    }

    private static void openTakesTheNewest() {
        byte[] none = {};
        byte[] older = Files.file(5, 1, 1, 3, Files.content(new long[] {1, 3}));
        byte[] newer = Files.file(5, 2, 2, 4, Files.content(new long[] {1, 4, 3}));
        byte[] others = Files.file(6, 3, 3, 9, Files.content(new long[] {1, 9}));
        dueOpened("the newer in slot 0", laid(newer, older), 4);
        dueOpened("the newer in slot 1", laid(older, newer), 4);
        dueOpened("slot 0 alone", laid(older, none), 3);
        dueOpened("slot 1 alone", laid(none, older), 3);
        dueOpened("another's in slot 0", laid(others, older), 3);
        dueOpened("another's in slot 1", laid(older, others), 3);
        dueOpened("both alike", laid(older, older), 3);
        largestAndSmallest();
    }

    private static void dueOpened(String what, CrashVault vault, int serial) {
        Check.due(what + ": open(5)", vault.open(5), serial);
        Check.due(what + ": isOpen()", vault.isOpen(), true);
        Check.due(what + ": serial()", vault.serial(), serial);
        Check.due(what + ": value(1, 0)", vault.value(1, 0), serial);
        Check.due(what + ": entries()", vault.entries(), 1);
        Check.due(what + ": length()", vault.length(), serial == 4 ? 55 : 47);
        Check.due(what + ": save(1000)", vault.save(1000), true);
        Check.due(what + ": serial() of the saved one", vault.serial(), serial + 1);
        long[] row = serial == 4 ? new long[] {1, 4, 3} : new long[] {1, 3};
        byte[] due = Files.file(5, serial - 2, serial - 2, serial + 1, Files.content(row));
        int at = vault.disk(2) == serial + 1 ? 0 : 300;
        Files.dueOnDisk(what + ", saved with the slot's salt and rounds", vault, at, due);
    }

    private static void largestAndSmallest() {
        CrashVault full = Scene.full();
        full.save(1000);
        String told = Told.entries(full);
        full.shut();
        Check.due("eight entries: open(5)", full.open(5), 3);
        Check.due("eight entries", Told.entries(full), told);
        CrashVault empty = Scene.made();
        empty.shut();
        Check.due("no entries: open(5)", empty.open(5), 1);
        Check.due("no entries: entries()", empty.entries(), 0);
    }

    private static void openWhateverWasOpen() {
        CrashVault vault = Scene.changed();
        Check.due("changed: open(5)", vault.open(5), 3);
        String none = " java.util.NoSuchElementException";
        Check.due("changed, opened", Told.vault(vault), "serial 3, length 80: -2 is 20" + none + none
            + "; 1 is 12 11 10; ");
        vault.save(1000);
        byte[] due = Files.file(5, 9, 3, 4, Files.content(new long[] {-2, 20}, new long[] {1, 12, 11, 10}));
        Files.dueOnDisk("changed, opened and saved", vault, 300, due);
        openOneThenTheOther();
    }

    /** Each slot has a vault of its own; of the one that was open nothing stays. */
    private static void openOneThenTheOther() {
        String none = " java.util.NoSuchElementException";
        CrashVault two = laid(Files.file(5, 8, 3, 20, Files.content(new long[] {5, 50})),
            Files.file(6, 9, 4, 10, Files.content(new long[] {6, 60})));
        Check.due("of two: open(5)", two.open(5), 20);
        Check.due("of two: open(6)", two.open(6), 10);
        Check.due("of two, 6", Told.vault(two), "serial 10, length 47: 6 is 60" + none + none + "; ");
        Check.due("of two: open(5) again", two.open(5), 20);
        Check.due("of two, 5", Told.vault(two), "serial 20, length 47: 5 is 50" + none + none + "; ");
        two.open(6);
        two.save(1000);
        byte[] due = Files.file(6, 9, 4, 11, Files.content(new long[] {6, 60}));
        Files.dueOnDisk("of two, 6, saved with its own salt and rounds", two, 0, due);
    }

    private static void openRefuses() {
        Refusal.everywhere("open(7)", NoSuchElementException.class, vault -> vault.open(Scene.NOBODYS));
        Refusal.everywhere("open(0)", NoSuchElementException.class, vault -> vault.open(0));
        Refusal.everywhere("open(5 with a high half)", NoSuchElementException.class, vault -> vault.open(5 | 1L << 32));
        for (Scene scene : Scene.OPEN) {
            if (scene.name().equals("changed")) {
                Refusal.in(scene, "open(6) before the save", NoSuchElementException.class, vault -> vault.open(6));
            }
            if (scene.name().equals("spoiled")) {
                Refusal.in(scene, "open(5)", NoSuchElementException.class, vault -> vault.open(5));
            }
        }
        Refusal.in(Scene.SHUT.get(1), "open(5)", NoSuchElementException.class, vault -> vault.open(5));
    }

    private static void shutLoses() {
        for (Scene scene : scenes()) {
            CrashVault vault = scene.vault().get();
            vault.shut();
            Check.due(scene.name() + ", shut: isOpen()", vault.isOpen(), false);
            Check.refused(scene.name() + ", shut: entries()", IllegalStateException.class, vault::entries);
            Check.refused(scene.name() + ", shut: save(1000)", IllegalStateException.class, () -> vault.save(1000));
            Check.due(scene.name() + ", shut: slot 0", Told.slot(vault, 0), Told.slot(scene.vault().get(), 0));
            CrashVault other = scene.vault().get();
            other.shut();
            Check.due(scene.name() + ", shut: slot 1", Told.slot(other, 1), Told.slot(scene.vault().get(), 1));
        }
        CrashVault vault = Scene.changed();
        vault.shut();
        Check.refused("changed and shut: open(6)", NoSuchElementException.class, () -> vault.open(6));
        Check.due("changed and shut: open(5)", vault.open(5), 3);
        Check.due("changed and shut: entries()", vault.entries(), 2);
        Check.due("changed and shut: value(1, 0)", vault.value(1, 0), 12);
        Check.due("changed and shut: value(-2, 0)", vault.value(-2, 0), 20);
        vault.save(1000);
        byte[] due = Files.file(5, 9, 3, 4, Files.content(new long[] {-2, 20}, new long[] {1, 12, 11, 10}));
        Files.dueOnDisk("changed, shut, opened and saved", vault, 300, due);
    }

    private static void shutTells() {
        for (Scene scene : scenes()) {
            CrashVault vault = scene.vault().get();
            Check.due(scene.name() + ": shut()", vault.shut(), scene.isOpen());
            Check.due(scene.name() + ": shut() again", vault.shut(), false);
        }
    }

    private static void isOpenTells() {
        for (Scene scene : scenes()) {
            CrashVault vault = scene.vault().get();
            Check.due(scene.name() + ": isOpen()", vault.isOpen(), scene.isOpen());
            Check.due(scene.name() + ": isOpen() again", vault.isOpen(), scene.isOpen());
            vault.make(5, 9, 1, 30);
            Check.due(scene.name() + ", made: isOpen()", vault.isOpen(), true);
            vault.save(29);
            Check.due(scene.name() + ", power failed: isOpen()", vault.isOpen(), false);
            vault.open(5);
            Check.due(scene.name() + ", opened: isOpen()", vault.isOpen(), true);
            vault.save(30);
            Check.due(scene.name() + ", saved: isOpen()", vault.isOpen(), true);
            vault.shut();
            Check.due(scene.name() + ", shut: isOpen()", vault.isOpen(), false);
            vault.make(5, 9, 1, 29);
            Check.due(scene.name() + ", made without power: isOpen()", vault.isOpen(), false);
        }
    }
}
