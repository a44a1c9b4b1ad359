import java.util.List;
import java.util.function.Supplier;

/** A state in which a call finds the vault, made anew for each look at it: an object has only 512 calls. */
record Scene(String name, boolean isOpen, Supplier<CrashVault> vault) {
    static final long PASSWORD = 5;
    /** What an open vault may have been renewed to. */
    static final long RENEWED = 6;
    /** No slot of any scene is good for it, though one may have its seals. */
    static final long NOBODYS = 7;

    static final List<Scene> SHUT = List.of(
        new Scene("new", false, CrashVault::new),
        new Scene("made without power", false, Scene::madeWithoutPower),
        new Scene("shut", false, Scene::shutAgain),
        new Scene("power failed", false, Scene::powerFailed));
    static final List<Scene> OPEN = List.of(
        new Scene("made", true, Scene::made),
        new Scene("changed", true, Scene::changed),
        new Scene("full", true, Scene::full),
        new Scene("opened", true, Scene::opened),
        new Scene("spoiled", true, Scene::spoiled),
        new Scene("forged in slot 0", true, () -> forged(0)),
        new Scene("forged in slot 1", true, () -> forged(1)));

    static CrashVault made() {
        CrashVault vault = new CrashVault();
        vault.make(PASSWORD, 9, 3, 1000);
        return vault;
    }

    /** Both slots are good, slot 0 is the newest, and there is much that is not saved. */
    static CrashVault changed() {
        CrashVault vault = made();
        vault.put(1, 10);
        vault.put(1, 11);
        vault.put(-2, 20);
        vault.save(1000);
        vault.put(1, 12);
        vault.save(1000);
        vault.put(1, 13);
        vault.remove(-2);
        vault.put(4, 40);
        vault.renew(RENEWED, 4);
        return vault;
    }

    /** Eight entries with two old values each, with names 10, 20 .. 80. */
    static CrashVault full() {
        CrashVault vault = made();
        for (int i = 1; i <= 8; i++) {
            vault.put(10 * i, i);
            vault.put(10 * i, 100 + i);
            vault.put(10 * i, 200 + i);
        }
        vault.save(1000);
        vault.put(80, 300);
        return vault;
    }

    private static CrashVault opened() {
        CrashVault vault = changed();
        vault.save(1000);
        vault.shut();
        vault.open(PASSWORD);
        vault.put(9, 9);
        return vault;
    }

    private static CrashVault spoiled() {
        CrashVault vault = changed();
        vault.spoil(25, 1);
        vault.spoil(325, 1);
        vault.spoil(299, 255);
        vault.spoil(599, 255);
        return vault;
    }

    /** Beside the vault stands a file whose seals are right for a password, but which has no content. */
    private static CrashVault forged(int slot) {
        byte[] outOfOrder = Files.content(new long[] {50, 1, 2}, new long[] {40, 3});
        CrashVault vault = new CrashVault();
        Files.lay(vault, 300 * slot, Files.file(NOBODYS, 9, 3, 90, outOfOrder));
        Files.lay(vault, 300 - 300 * slot, Files.file(PASSWORD, 9, 3, 5, Files.content(Files.rows(1, 1))));
        vault.open(PASSWORD);
        vault.put(2, 22);
        return vault;
    }

    private static CrashVault madeWithoutPower() {
        CrashVault vault = new CrashVault();
        vault.make(PASSWORD, 9, 3, 29);
        return vault;
    }

    private static CrashVault shutAgain() {
        CrashVault vault = changed();
        vault.shut();
        return vault;
    }

    private static CrashVault powerFailed() {
        CrashVault vault = changed();
        vault.save(25);
        return vault;
    }
}
