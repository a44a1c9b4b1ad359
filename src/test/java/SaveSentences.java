import java.util.NoSuchElementException;

/** Promises 6 to 9: length, save, renew, serial. */
final class SaveSentences {
    private SaveSentences() {
    }

    static void hold(Held held) {
        held.in("Promise 6: length")
            .by("How many bytes the file of the vault has if it is saved now.", SaveSentences::lengthOfTheFile)
            .by("IllegalStateException when it is shut.", SaveSentences::lengthRefusesWhenShut);
        held.in("Promise 7: save")
            .by("SAVES: true", SaveSentences::saves)
            .by("false when power fails.", SaveSentences::powerFails)
            .by("IllegalStateException when the vault is shut", SaveSentences::saveRefusesWhenShut)
            .by("IllegalArgumentException when power is negative.", SaveSentences::saveRefusesPower);
        held.in("Promise 8: renew")
            .by("From now on (if it is saved) the vault has another password, and other rounds.",
                SaveSentences::renewed)
            .by("(if it is saved)", SaveSentences::renewedAndNotSaved)
            .by("IllegalStateException when it is shut", SaveSentences::renewRefusesWhenShut)
            .by("IllegalArgumentException when rounds is not 1 .. 40.", SaveSentences::renewRefusesRounds);
        held.in("Promise 9: serial")
            .by("The serial of the vault, as it was made, opened or saved last.", SaveSentences::serialTells)
            .by("IllegalStateException when it is shut.", SaveSentences::serialRefusesWhenShut);
    }

    /** 30 bytes without entries, 294 with eight that have two old values each; a third old value adds nothing. */
    private static void lengthOfTheFile() {
        int due = 30;
        int puts = 0;
        for (int name = 0; name <= 8; name++) {
            for (int value = 0; value < (name == 0 ? 1 : 4); value++) {
                due += name == 0 || value == 3 ? 0 : value == 0 ? 17 : 8;
                dueLength(puts, due);
                puts++;
            }
        }
        Check.due("the largest", due, 294);
        CrashVault vault = Scene.full();
        Check.due("full: length()", vault.length(), 294);
        vault.renew(6, 40);
        Check.due("full, renewed: length()", vault.length(), 294);
        vault.put(10, 201);
        Check.due("full, the same value again: length()", vault.length(), 294);
        vault.remove(10);
        Check.due("full, one removed: length()", vault.length(), 294 - 33);
        vault.put(10, 1);
        Check.due("full, and put anew: length()", vault.length(), 294 - 16);
    }

    private static void dueLength(int puts, int due) {
        for (int less = 1; less >= 0; less--) {
            CrashVault vault = Scene.made();
            for (int put = 0; put < puts; put++) {
                vault.put(1 + put / 4, put);
            }
            Check.due(puts + " puts: length()", vault.length(), due);
            Check.due(puts + " puts: length() again", vault.length(), due);
            Check.due(puts + " puts: save(" + (due - less) + ")", vault.save(due - less), less == 0);
            vault.open(5);
            Check.due(puts + " puts, opened: length()", vault.length(), less == 0 ? due : 30);
        }
    }

    private static void lengthRefusesWhenShut() {
        Refusal.justWhenShut("length()", CrashVault::length);
    }

    private static void saves() {
        CrashVault vault = Scene.made();
        for (int serial = 2; serial < 8; serial++) {
            vault.put(1, serial);
            Check.due("save " + serial, vault.save(serial == 2 ? Integer.MAX_VALUE : vault.length()), true);
            Check.due("save " + serial + ": isOpen()", vault.isOpen(), true);
            long[] entry = serial == 2 ? new long[] {1, 2}
                : serial == 3 ? new long[] {1, 3, 2}
                : new long[] {1, serial, serial - 1, serial - 2};
            byte[] due = Files.file(5, 9, 3, serial, Files.content(entry));
            Files.dueOnDisk("save " + serial, vault, serial % 2 == 0 ? 300 : 0, due);
            Check.due("save " + serial + ": good", Told.good(vault, 5), "true true; ");
        }
        CrashVault unchanged = Scene.made();
        Check.due("nothing changed: save(30)", unchanged.save(30), true);
        Files.dueOnDisk("nothing changed", unchanged, 300, Files.file(5, 9, 3, 2, Files.content()));
    }

    private static void powerFails() {
        for (Scene scene : Scene.OPEN) {
            int length = scene.vault().get().length();
            for (int power : new int[] {0, 1, length - 1, length, length + 1}) {
                CrashVault vault = scene.vault().get();
                String call = scene.name() + ": save(" + power + ")";
                Check.due(call, vault.save(power), power >= length);
                Check.due(call + ": isOpen()", vault.isOpen(), power >= length);
                Check.due(call + ": shut()", vault.shut(), power >= length);
            }
        }
    }

    private static void saveRefusesWhenShut() {
        Refusal.justWhenShut("save(0)", vault -> vault.save(0));
        Refusal.justWhenShut("save(1000)", vault -> vault.save(1000));
    }

    private static void saveRefusesPower() {
        for (int power : new int[] {-1, -30, -1000, Integer.MIN_VALUE}) {
            Refusal.in(Scene.OPEN, "save(" + power + ")", IllegalArgumentException.class, vault -> vault.save(power));
        }
        for (Scene scene : Scene.OPEN) {
            Check.due(scene.name() + ": save(0)", scene.vault().get().save(0), false);
            Check.due(scene.name() + ": save(MAX)", scene.vault().get().save(Integer.MAX_VALUE), true);
        }
    }

    private static void renewed() {
        for (int rounds : new int[] {1, 2, 39, 40}) {
            CrashVault vault = Scene.made();
            vault.put(1, 1);
            vault.renew(6, rounds);
            String what = "renew(6, " + rounds + ")";
            Check.due(what + ": serial()", vault.serial(), 1);
            Check.due(what + ": the entries", vault.value(1, 0), 1);
            Check.due(what + ": good before the save", Told.good(vault, 5, 6), "true false; false false; ");
            Check.due(what + ": disk(300)", vault.disk(300), 0);
            Check.due(what + ": save(47)", vault.save(47), true);
            Files.dueOnDisk(what, vault, 300, Files.file(6, 9, rounds, 2, Files.content(new long[] {1, 1})));
            Check.due(what + ": good after the save", Told.good(vault, 5, 6), "true false; false true; ");
            vault.save(1000);
            Files.dueOnDisk(what + ", again", vault, 0, Files.file(6, 9, rounds, 3, Files.content(new long[] {1, 1})));
            Check.refused(what + ": open(5)", NoSuchElementException.class, () -> vault.open(5));
            Check.due(what + ": open(6)", vault.open(6), 3);
        }
        renewedInSmallSteps();
    }

    /** To the password it has, to other rounds alone, and twice before a save. */
    private static void renewedInSmallSteps() {
        CrashVault vault = Scene.made();
        vault.renew(5, 3);
        vault.save(1000);
        Files.dueOnDisk("the same", vault, 300, Files.file(5, 9, 3, 2, Files.content()));
        vault.renew(5, 4);
        vault.save(1000);
        Files.dueOnDisk("other rounds", vault, 0, Files.file(5, 9, 4, 3, Files.content()));
        vault.renew(5 | 1L << 32, 4);
        vault.save(1000);
        Files.dueOnDisk("another high half", vault, 300, Files.file(5 | 1L << 32, 9, 4, 4, Files.content()));
        vault.renew(0, 40);
        vault.renew(-1, 1);
        vault.save(1000);
        Files.dueOnDisk("twice", vault, 0, Files.file(-1, 9, 1, 5, Files.content()));
    }

    private static void renewedAndNotSaved() {
        byte[] due = Files.file(5, 9, 3, 2, Files.content());
        CrashVault shut = Scene.made();
        shut.renew(6, 4);
        shut.shut();
        dueNotRenewed("renewed and shut", shut, due);
        CrashVault failed = Scene.made();
        failed.renew(6, 4);
        failed.save(29);
        dueNotRenewed("renewed, and the power failed", failed, due);
        CrashVault opened = Scene.made();
        opened.renew(6, 4);
        dueNotRenewed("renewed and opened", opened, due);
        CrashVault made = Scene.made();
        made.renew(6, 4);
        made.make(5, 9, 3, 1000);
        dueNotRenewed("renewed and made", made, due);
    }

    private static void dueNotRenewed(String what, CrashVault vault, byte[] due) {
        Check.refused(what + ": open(6)", NoSuchElementException.class, () -> vault.open(6));
        Check.due(what + ": open(5)", vault.open(5), 1);
        vault.save(1000);
        Files.dueOnDisk(what, vault, 300, due);
    }

    private static void renewRefusesWhenShut() {
        Refusal.justWhenShut("renew(6, 1)", vault -> vault.renew(6, 1));
        Refusal.justWhenShut("renew(5, 40)", vault -> vault.renew(5, 40));
    }

    private static void renewRefusesRounds() {
        for (int rounds : new int[] {0, 41, -1, 256 + 1, 1 << 16 | 1, Integer.MIN_VALUE, Integer.MAX_VALUE}) {
            Refusal.in(Scene.OPEN, "renew(7, " + rounds + ")", IllegalArgumentException.class,
                vault -> vault.renew(7, rounds));
        }
        for (int rounds : new int[] {1, 40}) {
            CrashVault vault = Scene.made();
            Check.taken("renew(7, " + rounds + ")", () -> vault.renew(7, rounds));
            vault.save(1000);
            Check.due("renew(7, " + rounds + "): disk(310)", vault.disk(310), rounds);
        }
    }

    private static void serialTells() {
        CrashVault vault = Scene.made();
        Check.due("made: serial()", vault.serial(), 1);
        vault.put(1, 1);
        vault.renew(6, 4);
        Check.due("changed: serial()", vault.serial(), 1);
        vault.save(1000);
        Check.due("saved: serial()", vault.serial(), 2);
        vault.open(5);
        Check.due("the older one opened: serial()", vault.serial(), 1);
        vault.open(6);
        Check.due("the newer one opened: serial()", vault.serial(), 2);
        vault.save(3);
        vault.open(6);
        Check.due("power failed, opened: serial()", vault.serial(), 2);
        vault.make(5, 9, 1, 1000);
        Check.due("made again: serial()", vault.serial(), 1);
        for (int serial : new int[] {0, -1, Integer.MIN_VALUE, Integer.MAX_VALUE}) {
            CrashVault laid = new CrashVault();
            Files.lay(laid, 300, Files.file(5, 9, 3, serial, Files.content()));
            laid.open(5);
            Check.due(serial + ", opened: serial()", laid.serial(), serial);
            laid.save(1000);
            Check.due(serial + ", saved: serial()", laid.serial(), serial + 1);
        }
    }

    private static void serialRefusesWhenShut() {
        Refusal.justWhenShut("serial()", CrashVault::serial);
    }
}
