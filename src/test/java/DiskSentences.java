import java.util.NoSuchElementException;

/** Promises 15 to 17: disk, spoil, isGood. */
final class DiskSentences {
    private static final int[] NO_PLACES = {-1, 600, 601, -300, 1 << 16, Integer.MIN_VALUE, Integer.MAX_VALUE};

    private DiskSentences() {
    }

    static void hold(Held held) {
        held.in("Promise 15: disk")
            .by("Byte i of the disk.", DiskSentences::bytesOfTheDisk)
            .by("IndexOutOfBoundsException when there is none.", DiskSentences::diskRefuses);
        held.in("Promise 16: spoil")
            .by("Byte i of the disk becomes what it was xor the lowest 8 bits of bits.", DiskSentences::spoilTurnsBits)
            .by("IndexOutOfBoundsException when there is none.", DiskSentences::spoilRefuses);
        held.in("Promise 17: isGood")
            .by("Whether a slot is GOOD for a password.", DiskSentences::isGoodTells)
            .by("IndexOutOfBoundsException when slot is not 0 or 1.", DiskSentences::isGoodRefuses);
    }

    /** A byte is 0 .. 255, whether a vault is open or shut. */
    private static void bytesOfTheDisk() {
        byte[] due = Files.file(5, -1, 40, 1, Files.content());
        CrashVault vault = new CrashVault();
        vault.make(5, -1, 40, 1000);
        Check.due("disk(6)", vault.disk(6), 255);
        Files.dueOnDisk("open", vault, 0, due);
        vault.shut();
        Files.dueOnDisk("shut", vault, 0, due);
        Check.due("disk(30)", vault.disk(30), 0);
        Check.due("disk(599)", vault.disk(599), 0);
        vault.spoil(599, 128);
        Check.due("spoiled: disk(599)", vault.disk(599), 128);
        Check.due("spoiled: disk(598)", vault.disk(598), 0);
        Check.due("isOpen()", vault.isOpen(), false);
    }

    private static void diskRefuses() {
        for (int i : NO_PLACES) {
            Refusal.everywhere("disk(" + i + ")", IndexOutOfBoundsException.class, vault -> vault.disk(i));
        }
        CrashVault vault = new CrashVault();
        Check.due("disk(0)", vault.disk(0), 0);
        Check.due("disk(599)", vault.disk(599), 0);
    }

    private static void spoilTurnsBits() {
        int[] all = {0, 1, 128, 255, 256, 257, 511, -1, -256, -128, 0x7fffff00, Integer.MIN_VALUE, Integer.MAX_VALUE};
        for (int place : new int[] {0, 1, 298, 299, 300, 301, 598, 599}) {
            CrashVault vault = new CrashVault();
            int due = 0;
            for (int bits : all) {
                vault.spoil(place, bits);
                due ^= Math.floorMod(bits, 256);
                Check.due("spoil(" + place + ", " + bits + "): disk(" + place + ")", vault.disk(place), due);
            }
            for (int other = Math.max(0, place - 2); other < Math.min(600, place + 3); other++) {
                if (other != place) {
                    Check.due("spoil(" + place + "): disk(" + other + ")", vault.disk(other), 0);
                }
            }
        }
        spoilLeavesTheOpenVault();
    }

    /** What is on the disk is no longer good; what is open stays as it is, and can be saved. */
    private static void spoilLeavesTheOpenVault() {
        CrashVault vault = Scene.made();
        vault.put(1, 11);
        vault.save(1000);
        String told = Told.vault(vault);
        for (int i : new int[] {0, 2, 299, 300, 306, 310, 330, 599}) {
            vault.spoil(i, 255);
            Check.due("spoiled at " + i, Told.vault(vault), told);
        }
        Check.refused("spoiled: open(5)", NoSuchElementException.class, () -> vault.open(5));
        Check.due("spoiled: save(1000)", vault.save(1000), true);
        Files.dueOnDisk("spoiled", vault, 0, Files.file(5, 9, 3, 3, Files.content(new long[] {1, 11})));
    }

    private static void spoilRefuses() {
        for (int i : NO_PLACES) {
            Refusal.everywhere("spoil(" + i + ", 255)", IndexOutOfBoundsException.class, vault -> vault.spoil(i, 255));
        }
        Refusal.everywhere("spoil(600, 0)", IndexOutOfBoundsException.class, vault -> vault.spoil(600, 0));
        CrashVault vault = new CrashVault();
        vault.spoil(0, 3);
        vault.spoil(599, 5);
        Check.due("disk(0)", vault.disk(0), 3);
        Check.due("disk(599)", vault.disk(599), 5);
    }

    /** It tells of the disk, changes nothing, and needs no open vault. */
    private static void isGoodTells() {
        CrashVault vault = Scene.made();
        Check.due("made", Told.good(vault, 5, 6), "true false; false false; ");
        vault.put(1, 1);
        vault.renew(6, 2);
        Check.due("renewed", Told.good(vault, 5, 6), "true false; false false; ");
        vault.save(1000);
        Check.due("saved", Told.good(vault, 5, 6), "true false; false true; ");
        vault.put(2, 2);
        String told = Told.vault(vault);
        Check.due("changed", Told.good(vault, 5, 6, 7, 0, -1),
            "true false; false true; false false; false false; false false; ");
        Check.due("asked", Told.vault(vault), told);
        vault.save(10);
        Check.due("power failed", Told.good(vault, 5, 6), "false false; false true; ");
        Check.due("power failed: isOpen()", vault.isOpen(), false);
        vault.spoil(350, 1);
        Check.due("behind the file", Told.good(vault, 5, 6), "false false; false true; ");
        vault.spoil(346, 1);
        Check.due("the file's last byte", Told.good(vault, 5, 6), "false false; false false; ");
        vault.spoil(346, 1);
        Check.due("as before", Told.good(vault, 5, 6), "false false; false true; ");
        askingChangesNothing();
    }

    private static void askingChangesNothing() {
        for (Scene scene : Scene.OPEN) {
            CrashVault asked = scene.vault().get();
            Told.good(asked, 5, 6, 7, 0);
            CrashVault other = scene.vault().get();
            Check.due(scene.name() + ", asked", Told.vault(asked), Told.vault(other));
            asked.save(1000);
            other.save(1000);
            Check.due(scene.name() + ", asked and saved", Told.slot(asked, 0), Told.slot(other, 0));
        }
    }

    private static void isGoodRefuses() {
        for (int slot : new int[] {-1, 2, 3, 300, 1 << 16, Integer.MIN_VALUE, Integer.MAX_VALUE}) {
            Refusal.everywhere("isGood(" + slot + ", 5)", IndexOutOfBoundsException.class,
                vault -> vault.isGood(slot, 5));
        }
        CrashVault vault = Scene.made();
        vault.save(1000);
        Check.due("isGood(0, 5)", vault.isGood(0, 5), true);
        Check.due("isGood(1, 5)", vault.isGood(1, 5), true);
    }
}
