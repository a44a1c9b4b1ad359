import java.util.function.Supplier;

/** What a vault answers, as a text that can be compared with another vault's. */
final class Told {
    private Told() {
    }

    /** All that an open vault answers; of a shut one, that it is shut. */
    static String vault(CrashVault vault) {
        if (!vault.isOpen()) {
            return "shut, " + answer(vault::serial) + ", " + answer(vault::entries);
        }
        return "serial " + vault.serial() + ", length " + vault.length() + ": " + entries(vault);
    }

    static String entries(CrashVault vault) {
        StringBuilder told = new StringBuilder();
        int count = vault.entries();
        for (int i = 0; i < count; i++) {
            long name = vault.name(i);
            told.append(name).append(" is");
            for (int back = 0; back < 3; back++) {
                int b = back;
                told.append(' ').append(answer(() -> vault.value(name, b)));
            }
            told.append("; ");
        }
        return told.toString();
    }

    static String good(CrashVault vault, long... passwords) {
        StringBuilder told = new StringBuilder();
        for (long password : passwords) {
            told.append(vault.isGood(0, password)).append(' ').append(vault.isGood(1, password)).append("; ");
        }
        return told.toString();
    }

    static String slot(CrashVault vault, int slot) {
        StringBuilder told = new StringBuilder();
        for (int i = 300 * slot; i < 300 * slot + 300; i++) {
            told.append(' ').append(vault.disk(i));
        }
        return told.toString();
    }

    static String answer(Supplier<Object> call) {
        try {
            return call.get().toString();
        } catch (RuntimeException e) {
            return e.getClass().getName();
        }
    }
}
