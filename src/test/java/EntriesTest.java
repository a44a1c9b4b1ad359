import java.util.NoSuchElementException;

/** Promises 10 to 14: put, remove, entries, name, value. */
public final class EntriesTest {
    public static void main(String[] args) {
        refusedWhenShut();
        putKeepsWhatWasBefore();
        putKeepsTheOrderOfLongs();
        putRefuses();
        removed();
        names();
        values();
        Check.end();
    }

    private static CrashVault made() {
        CrashVault vault = new CrashVault();
        vault.make(5, 9, 1, 1000);
        return vault;
    }

    private static void refusedWhenShut() {
        CrashVault vault = new CrashVault();
        for (int time = 0; time < 2; time++) {
            Check.refused("shut: put(1, 1)", IllegalStateException.class, () -> vault.put(1, 1));
            Check.refused("shut: put(0, 1)", IllegalStateException.class, () -> vault.put(0, 1));
            Check.refused("shut: remove(1)", IllegalStateException.class, () -> vault.remove(1));
            Check.refused("shut: entries()", IllegalStateException.class, vault::entries);
            Check.refused("shut: name(0)", IllegalStateException.class, () -> vault.name(0));
            Check.refused("shut: name(-1)", IllegalStateException.class, () -> vault.name(-1));
            Check.refused("shut: value(1, 0)", IllegalStateException.class, () -> vault.value(1, 0));
            Check.refused("shut: value(1, 3)", IllegalStateException.class, () -> vault.value(1, 3));
            vault.make(5, 9, 1, 1000);
            vault.put(1, 1);
            vault.shut();
        }
    }

    private static void putKeepsWhatWasBefore() {
        CrashVault vault = made();
        Check.due("put(3, 10)", vault.put(3, 10), true);
        Check.due("put(3, 10) again", vault.put(3, 10), false);
        Check.refused("same value: value(3, 1)", NoSuchElementException.class, () -> vault.value(3, 1));
        Check.due("put(3, 0)", vault.put(3, 0), false);
        dueValues(vault, 3, 0, 10);
        vault.put(3, 0);
        dueValues(vault, 3, 0, 10);
        vault.put(3, 10);
        dueValues(vault, 3, 10, 0, 10);
        vault.put(3, Long.MAX_VALUE);
        dueValues(vault, 3, Long.MAX_VALUE, 10, 0);
        vault.put(3, Long.MAX_VALUE ^ 1L << 32);
        dueValues(vault, 3, Long.MAX_VALUE ^ 1L << 32, Long.MAX_VALUE, 10);
        Check.due("entries()", vault.entries(), 1);
        vault.put(2, 5);
        vault.put(2, 6);
        dueValues(vault, 2, 6, 5);
        dueValues(vault, 3, Long.MAX_VALUE ^ 1L << 32, Long.MAX_VALUE, 10);
    }

    private static void dueValues(CrashVault vault, long name, long... due) {
        for (int back = 0; back < due.length; back++) {
            Check.due("value(" + name + ", " + back + ")", vault.value(name, back), due[back]);
        }
        for (int back = due.length; back < 3; back++) {
            int none = back;
            Check.refused("value(" + name + ", " + back + ")", NoSuchElementException.class,
                () -> vault.value(name, none));
        }
    }

    private static void putKeepsTheOrderOfLongs() {
        long[] mixed = {5, Long.MAX_VALUE, -1, 1L << 32, Long.MIN_VALUE, 1, -1L << 32, 0xffffffffL};
        long[] sorted = {Long.MIN_VALUE, -1L << 32, -1, 1, 5, 0xffffffffL, 1L << 32, Long.MAX_VALUE};
        CrashVault vault = made();
        for (int i = 0; i < mixed.length; i++) {
            Check.due("put(" + mixed[i] + ")", vault.put(mixed[i], i), true);
            vault.put(mixed[i], i + 100);
            Check.due("entries()", vault.entries(), i + 1);
        }
        for (int i = 0; i < sorted.length; i++) {
            Check.due("name(" + i + ")", vault.name(i), sorted[i]);
        }
        for (int i = 0; i < mixed.length; i++) {
            dueValues(vault, mixed[i], i + 100, i);
        }
        vault.save(1000);
        vault.open(5);
        for (int i = 0; i < mixed.length; i++) {
            dueValues(vault, mixed[i], i + 100, i);
        }
    }

    private static void putRefuses() {
        CrashVault vault = made();
        Check.refused("put(0, 1)", IllegalArgumentException.class, () -> vault.put(0, 1));
        Check.due("refused: entries()", vault.entries(), 0);
        for (int i = 1; i <= 8; i++) {
            vault.put(2 * i, i);
        }
        Check.refused("full: put(3, 3)", UnsupportedOperationException.class, () -> vault.put(3, 3));
        Check.refused("full: put(99, 3)", UnsupportedOperationException.class, () -> vault.put(99, 3));
        Check.refused("full: put(0, 3)", IllegalArgumentException.class, () -> vault.put(0, 3));
        Check.due("full: entries()", vault.entries(), 8);
        Check.due("full: put(16, 7)", vault.put(16, 7), false);
        dueValues(vault, 16, 7, 8);
        Check.due("full: remove(2)", vault.remove(2), true);
        Check.due("room again: put(99, 3)", vault.put(99, 3), true);
        Check.due("room again: name(7)", vault.name(7), 99);
    }

    private static void removed() {
        CrashVault vault = made();
        Check.due("remove(1) of none", vault.remove(1), false);
        for (int i = 1; i <= 8; i++) {
            vault.put(i, i);
            vault.put(i, 10 * i);
            if (i % 2 == 0) {
                vault.put(i, 100 * i);
            }
        }
        Check.due("remove(0)", vault.remove(0), false);
        Check.due("remove(9)", vault.remove(9), false);
        Check.due("remove(8)", vault.remove(8), true);
        Check.due("remove(1)", vault.remove(1), true);
        Check.due("remove(4)", vault.remove(4), true);
        Check.due("remove(4) again", vault.remove(4), false);
        Check.due("entries()", vault.entries(), 5);
        long[] left = {2, 3, 5, 6, 7};
        for (int i = 0; i < left.length; i++) {
            long n = left[i];
            Check.due("name(" + i + ")", vault.name(i), n);
            if (n % 2 == 0) {
                dueValues(vault, n, 100 * n, 10 * n, n);
            } else {
                dueValues(vault, n, 10 * n, n);
            }
        }
        Check.due("put(4) after remove(4)", vault.put(4, 44), true);
        dueValues(vault, 4, 44);
        dueValues(vault, 5, 50, 5);
        dueValues(vault, 3, 30, 3);
    }

    private static void names() {
        CrashVault vault = made();
        Check.refused("name(0) of none", IndexOutOfBoundsException.class, () -> vault.name(0));
        vault.put(7, 1);
        vault.put(6, 1);
        vault.remove(7);
        Check.due("name(0)", vault.name(0), 6);
        for (int i : new int[] {-1, 1, 2, 8, Integer.MAX_VALUE, Integer.MIN_VALUE}) {
            Check.refused("name(" + i + ")", IndexOutOfBoundsException.class, () -> vault.name(i));
        }
    }

    private static void values() {
        CrashVault vault = made();
        vault.put(7, 1);
        for (int back : new int[] {-1, 3, Integer.MAX_VALUE, Integer.MIN_VALUE}) {
            Check.refused("value(7, " + back + ")", IndexOutOfBoundsException.class, () -> vault.value(7, back));
            Check.refused("value(8, " + back + ")", IndexOutOfBoundsException.class, () -> vault.value(8, back));
        }
        for (int back = 0; back < 3; back++) {
            int b = back;
            Check.refused("value(8, " + b + ")", NoSuchElementException.class, () -> vault.value(8, b));
            Check.refused("value(0, " + b + ")", NoSuchElementException.class, () -> vault.value(0, b));
        }
        dueValues(vault, 7, 1);
    }
}
