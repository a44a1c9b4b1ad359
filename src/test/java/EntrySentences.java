import java.util.NoSuchElementException;

/** Promises 10 to 14: put, remove, entries, name, value. */
final class EntrySentences {
    private EntrySentences() {
    }

    static void hold(Held held) {
        held.in("Promise 10: put")
            .by("The entry of a name gets a value", EntrySentences::putSetsTheValue)
            .by("if it had another one, that becomes its latest old value", EntrySentences::putKeepsAnotherValue)
            .by("and the third latest is forgotten.", EntrySentences::putForgetsTheThird)
            .by("True if the name is new.", EntrySentences::putTellsNewNames)
            .by("IllegalStateException when the vault is shut", EntrySentences::putRefusesWhenShut)
            .by("IllegalArgumentException when name is 0", EntrySentences::putRefusesNameZero)
            .by("UnsupportedOperationException when it is new and there are eight.", EntrySentences::putRefusesTheNinth);
        held.in("Promise 11: remove")
            .by("The entry of a name goes", EntrySentences::removeDrops)
            .by("whether there was one.", EntrySentences::removeTells)
            .by("IllegalStateException when the vault is shut.", EntrySentences::removeRefusesWhenShut);
        held.in("Promise 12: entries")
            .by("How many entries there are.", EntrySentences::entriesCount)
            .by("IllegalStateException when the vault is shut.", EntrySentences::entriesRefusesWhenShut);
        held.in("Promise 13: name")
            .by("The name of entry i (from 0).", EntrySentences::namesFromZero)
            .by("IllegalStateException when the vault is shut", EntrySentences::nameRefusesWhenShut)
            .by("IndexOutOfBoundsException when there is none.", EntrySentences::nameRefusesPlaces);
        held.in("Promise 14: value")
            .by("The value of a name (back 0), or its old one, the latest (1) or the one before (2).",
                EntrySentences::valuesBack)
            .by("IllegalStateException when the vault is shut", EntrySentences::valueRefusesWhenShut)
            .by("IndexOutOfBoundsException when back is not 0 .. 2", EntrySentences::valueRefusesBack)
            .by("NoSuchElementException when there is none.", EntrySentences::valueRefusesWhereNoneIs);
    }

    private static void dueValues(String what, CrashVault vault, long name, long... due) {
        for (int back = 0; back < 3; back++) {
            int b = back;
            String call = what + ": value(" + name + ", " + back + ")";
            if (back < due.length) {
                Check.due(call, vault.value(name, back), due[back]);
            } else {
                Check.refused(call, NoSuchElementException.class, () -> vault.value(name, b));
            }
        }
    }

    private static void putSetsTheValue() {
        for (long name : new long[] {1, -1, Long.MIN_VALUE, Long.MAX_VALUE, 1L << 32, 0xffffffffL}) {
            for (long value : new long[] {0, 1, -1, Long.MIN_VALUE, Long.MAX_VALUE, 1L << 32}) {
                CrashVault vault = Scene.made();
                vault.put(name, value);
                dueValues("put(" + name + ", " + value + ")", vault, name, value);
                Check.due("put(" + name + ", " + value + "): entries()", vault.entries(), 1);
                vault.save(1000);
                vault.open(5);
                dueValues("put(" + name + ", " + value + "), opened", vault, name, value);
            }
        }
        CrashVault vault = Scene.full();
        for (int i = 1; i <= 8; i++) {
            vault.put(10 * i, -i);
            for (int other = 1; other <= 8; other++) {
                long value = other <= i ? -other : other == 8 ? 300 : 200 + other;
                Check.due("full, put(" + 10 * i + "): value(" + 10 * other + ", 0)", vault.value(10 * other, 0), value);
            }
        }
    }

    /** The value that it has is no other one: it leaves the old values as they are. */
    private static void putKeepsAnotherValue() {
        CrashVault vault = Scene.made();
        vault.put(3, 10);
        vault.put(3, 10);
        dueValues("10 10", vault, 3, 10);
        vault.put(3, 0);
        dueValues("10 0", vault, 3, 0, 10);
        vault.put(3, 0);
        dueValues("10 0 0", vault, 3, 0, 10);
        vault.put(3, 10);
        dueValues("10 0 10", vault, 3, 10, 0, 10);
        vault.put(3, 10);
        dueValues("10 0 10 10", vault, 3, 10, 0, 10);
        vault.put(3, 10 | 1L << 32);
        dueValues("10 0 10 and another high half", vault, 3, 10 | 1L << 32, 10, 0);
        vault.put(3, 11 | 1L << 32);
        dueValues("and another low half", vault, 3, 11 | 1L << 32, 10 | 1L << 32, 10);
        CrashVault zero = Scene.made();
        zero.put(1, 0);
        zero.put(1, 0);
        dueValues("0 0", zero, 1, 0);
        zero.save(1000);
        zero.open(5);
        zero.put(1, 0);
        dueValues("0 0, opened, 0", zero, 1, 0);
        zero.put(1, 2);
        dueValues("0, opened, 2", zero, 1, 2, 0);
    }

    private static void putForgetsTheThird() {
        CrashVault vault = Scene.made();
        long[] puts = {1, 2, 3, 4, 5, Long.MIN_VALUE, Long.MAX_VALUE};
        vault.put(-9, 7);
        vault.put(9, 8);
        for (int i = 0; i < puts.length; i++) {
            vault.put(6, puts[i]);
            long[] due = i == 0 ? new long[] {puts[0]}
                : i == 1 ? new long[] {puts[1], puts[0]}
                : new long[] {puts[i], puts[i - 1], puts[i - 2]};
            dueValues((i + 1) + " values", vault, 6, due);
            dueValues((i + 1) + " values, the one before", vault, -9, 7);
            dueValues((i + 1) + " values, the one behind", vault, 9, 8);
        }
        vault.save(1000);
        vault.open(5);
        vault.put(6, 0);
        dueValues("opened", vault, 6, 0, Long.MAX_VALUE, Long.MIN_VALUE);
    }

    private static void putTellsNewNames() {
        CrashVault vault = Scene.made();
        for (int i = 1; i <= 8; i++) {
            Check.due("put(" + i + ", 1)", vault.put(i, 1), true);
            Check.due("put(" + i + ", 1) again", vault.put(i, 1), false);
            Check.due("put(" + i + ", 2)", vault.put(i, 2), false);
        }
        vault.remove(4);
        Check.due("removed: put(4, 2)", vault.put(4, 2), true);
        dueValues("removed and put", vault, 4, 2);
        vault.save(1000);
        vault.open(5);
        Check.due("opened: put(4, 3)", vault.put(4, 3), false);
        CrashVault lost = Scene.made();
        lost.put(1, 1);
        lost.open(5);
        Check.due("lost: put(1, 1)", lost.put(1, 1), true);
        Check.due("the same low half: put(1 << 32 | 1, 1)", lost.put(1L << 32 | 1, 1), true);
        Check.due("the same but for the sign: put(-1, 1)", lost.put(-1, 1), true);
    }

    private static void putRefusesWhenShut() {
        Refusal.justWhenShut("put(10, 1)", vault -> vault.put(10, 1));
        Refusal.in(Scene.SHUT, "put(1, 13)", IllegalStateException.class, vault -> vault.put(1, 13));
    }

    private static void putRefusesNameZero() {
        for (long value : new long[] {0, 1, -1}) {
            Refusal.in(Scene.OPEN, "put(0, " + value + ")", IllegalArgumentException.class,
                vault -> vault.put(0, value));
        }
        for (long name : new long[] {1, -1, 1L << 32, Long.MIN_VALUE}) {
            CrashVault vault = Scene.made();
            Check.due("put(" + name + ", 0)", vault.put(name, 0), true);
        }
    }

    /** Seven leave room for an eighth; of eight each may get another value, and one that goes makes room. */
    private static void putRefusesTheNinth() {
        Scene full = new Scene("full", true, Scene::full);
        for (long name : new long[] {1, 11, 81, -1, Long.MIN_VALUE, Long.MAX_VALUE, 10 | 1L << 32}) {
            Refusal.in(full, "put(" + name + ", 1)", UnsupportedOperationException.class, vault -> vault.put(name, 1));
        }
        CrashVault vault = Scene.made();
        for (int i = 1; i <= 8; i++) {
            Check.due("put(" + 10 * i + ", 1) beside " + (i - 1), vault.put(10 * i, 1), true);
        }
        for (int i = 1; i <= 8; i++) {
            Check.due("full: put(" + 10 * i + ", 2)", vault.put(10 * i, 2), false);
            dueValues("full", vault, 10 * i, 2, 1);
        }
        vault.remove(30);
        Check.due("one gone: put(99, 3)", vault.put(99, 3), true);
        Check.refused("full again: put(30, 3)", UnsupportedOperationException.class, () -> vault.put(30, 3));
        vault.save(1000);
        vault.open(5);
        Check.refused("full, opened: put(30, 3)", UnsupportedOperationException.class, () -> vault.put(30, 3));
        Check.due("full, opened: put(99, 4)", vault.put(99, 4), false);
    }

    /** The first, one between and the last of eight: the others keep their places and values. */
    private static void removeDrops() {
        for (int gone = 1; gone <= 8; gone++) {
            CrashVault vault = Scene.made();
            for (int i = 1; i <= 8; i++) {
                Files.put(vault, new long[][] {{i, i}, {i, 10 * i, i}, {i, 100 * i, 10 * i, i}}[i % 3]);
            }
            vault.remove(gone);
            String what = "without " + gone;
            Check.due(what + ": entries()", vault.entries(), 7);
            for (int i = 1; i <= 8; i++) {
                long[][] due = {{i}, {10 * i, i}, {100 * i, 10 * i, i}};
                dueValues(what, vault, i, i == gone ? new long[0] : due[i % 3]);
                if (i < 8) {
                    Check.due(what + ": name(" + (i - 1) + ")", vault.name(i - 1), i < gone ? i : i + 1);
                }
            }
            Check.due(what + ": put(" + gone + ", 5)", vault.put(gone, 5), true);
            dueValues(what + ", put again", vault, gone, 5);
        }
    }

    private static void removeTells() {
        CrashVault vault = Scene.made();
        Check.due("none: remove(1)", vault.remove(1), false);
        Check.due("none: remove(0)", vault.remove(0), false);
        vault.put(1, 0);
        vault.put(-1, 0);
        Check.due("remove(0)", vault.remove(0), false);
        Check.due("remove(2)", vault.remove(2), false);
        Check.due("remove(1 << 32 | 1)", vault.remove(1L << 32 | 1), false);
        Check.due("entries() after these", vault.entries(), 2);
        Check.due("remove(1)", vault.remove(1), true);
        Check.due("remove(1) again", vault.remove(1), false);
        Check.due("remove(-1)", vault.remove(-1), true);
        Check.due("entries()", vault.entries(), 0);
        CrashVault full = Scene.full();
        for (int i = 8; i >= 1; i--) {
            Check.due("full: remove(" + (10 * i + 1) + ")", full.remove(10 * i + 1), false);
            Check.due("full: remove(" + 10 * i + ")", full.remove(10 * i), true);
            Check.due("full: remove(" + 10 * i + ") again", full.remove(10 * i), false);
            Check.due("full: entries()", full.entries(), i - 1);
        }
        full.open(5);
        Check.due("lost: remove(10)", full.remove(10), true);
    }

    private static void removeRefusesWhenShut() {
        Refusal.justWhenShut("remove(1)", vault -> vault.remove(1));
        Refusal.justWhenShut("remove(99)", vault -> vault.remove(99));
        Refusal.justWhenShut("remove(0)", vault -> vault.remove(0));
    }

    private static void entriesCount() {
        CrashVault vault = Scene.made();
        for (int i = 0; i < 8; i++) {
            Check.due("entries() of " + i, vault.entries(), i);
            vault.put(50 - 7 * i, i);
            vault.put(50 - 7 * i, i + 1);
        }
        Check.due("entries() of 8", vault.entries(), 8);
        Check.refused("put(99, 1)", UnsupportedOperationException.class, () -> vault.put(99, 1));
        Check.due("entries() of 8, refused", vault.entries(), 8);
        vault.save(1000);
        for (int i = 8; i > 0; i--) {
            Check.due("entries() with " + i + " left", vault.entries(), i);
            vault.remove(vault.name(0));
        }
        Check.due("entries() with none left", vault.entries(), 0);
        vault.open(5);
        Check.due("entries() opened", vault.entries(), 8);
    }

    private static void entriesRefusesWhenShut() {
        Refusal.justWhenShut("entries()", CrashVault::entries);
    }

    private static void namesFromZero() {
        CrashVault vault = Scene.made();
        long[] names = {Long.MIN_VALUE, -2, -1, 1, 2, 1L << 31, 1L << 32, Long.MAX_VALUE};
        for (int i = names.length - 1; i >= 0; i--) {
            vault.put(names[i], 1);
            Check.due("name(0) of " + vault.entries(), vault.name(0), names[i]);
            Check.due("the last name of " + vault.entries(), vault.name(7 - i), Long.MAX_VALUE);
        }
        for (int i = 0; i < 8; i++) {
            Check.due("name(" + i + ")", vault.name(i), names[i]);
        }
        vault.save(1000);
        vault.open(5);
        for (int i = 0; i < 8; i++) {
            Check.due("name(" + i + ") opened", vault.name(i), names[i]);
        }
    }

    private static void nameRefusesWhenShut() {
        Refusal.in(Scene.SHUT, "name(0)", IllegalStateException.class, vault -> vault.name(0));
        Refusal.in(Scene.SHUT, "name(7)", IllegalStateException.class, vault -> vault.name(7));
        Refusal.in(Scene.SHUT, "name(-1)", IllegalStateException.class, vault -> vault.name(-1));
    }

    /** The last place that has an entry and the first that has none, from none to eight entries. */
    private static void nameRefusesPlaces() {
        for (Scene scene : Scene.OPEN) {
            int count = scene.vault().get().entries();
            for (int i : new int[] {-1, count, count + 1, 8, 9, Integer.MIN_VALUE, Integer.MAX_VALUE}) {
                Refusal.in(scene, "name(" + i + ")", IndexOutOfBoundsException.class, vault -> vault.name(i));
            }
        }
        CrashVault vault = Scene.made();
        for (int count = 0; count <= 8; count++) {
            int none = count;
            Check.refused("name(" + count + ") of " + count, IndexOutOfBoundsException.class, () -> vault.name(none));
            Check.refused("name(-1) of " + count, IndexOutOfBoundsException.class, () -> vault.name(-1));
            if (count > 0) {
                Check.due("name(" + (count - 1) + ") of " + count, vault.name(count - 1), count);
            }
            if (count < 8) {
                vault.put(count + 1, 1);
            }
        }
        vault.remove(3);
        Check.due("name(6) of 7", vault.name(6), 8);
        Check.refused("name(7) of 7", IndexOutOfBoundsException.class, () -> vault.name(7));
    }

    private static void valuesBack() {
        CrashVault vault = Scene.made();
        Files.put(vault, new long[] {-5, 1, 2, 3}, new long[] {4, Long.MAX_VALUE, 0, Long.MIN_VALUE},
            new long[] {6, -1, -2}, new long[] {7, 0});
        for (int time = 0; time < 2; time++) {
            String what = time == 0 ? "put" : "opened";
            dueValues(what, vault, -5, 1, 2, 3);
            dueValues(what, vault, 4, Long.MAX_VALUE, 0, Long.MIN_VALUE);
            dueValues(what, vault, 6, -1, -2);
            dueValues(what, vault, 7, 0);
            vault.save(1000);
            vault.open(5);
        }
    }

    private static void valueRefusesWhenShut() {
        for (int back : new int[] {-1, 0, 1, 2, 3}) {
            Refusal.in(Scene.SHUT, "value(1, " + back + ")", IllegalStateException.class, vault -> vault.value(1, back));
        }
        CrashVault open = Scene.changed();
        Check.due("open: value(1, 0)", open.value(1, 0), 13);
        open.shut();
        Check.refused("shut: value(1, 0)", IllegalStateException.class, () -> open.value(1, 0));
    }

    private static void valueRefusesBack() {
        for (int back : new int[] {-1, 3, 4, 256, -256, 1 << 16, Integer.MIN_VALUE, Integer.MAX_VALUE}) {
            for (long name : new long[] {1, 10, 80, 99, 0}) {
                Refusal.in(Scene.OPEN, "value(" + name + ", " + back + ")", IndexOutOfBoundsException.class,
                    vault -> vault.value(name, back));
            }
        }
        CrashVault full = Scene.full();
        for (int i = 1; i < 8; i++) {
            dueValues("full", full, 10 * i, 200 + i, 100 + i, i);
        }
        dueValues("full, the last", full, 80, 300, 208, 108);
    }

    private static void valueRefusesWhereNoneIs() {
        for (int back = 0; back <= 2; back++) {
            int b = back;
            for (long name : new long[] {0, 99, -1, 1L << 32 | 1, 10 | 1L << 32}) {
                Refusal.in(Scene.OPEN, "value(" + name + ", " + back + ")", NoSuchElementException.class,
                    vault -> vault.value(name, b));
            }
        }
        // One value, one old one, two old ones: the next one back is not there.
        CrashVault vault = Scene.made();
        vault.put(1, 5);
        dueValues("one value", vault, 1, 5);
        vault.put(1, 6);
        dueValues("two values", vault, 1, 6, 5);
        vault.put(1, 7);
        dueValues("three values", vault, 1, 7, 6, 5);
        vault.remove(1);
        dueValues("removed", vault, 1);
        vault.put(1, 8);
        dueValues("put again", vault, 1, 8);
        // A new entry takes over no old value of the one that was in its place.
        vault.put(2, 1);
        vault.put(2, 2);
        vault.put(2, 3);
        vault.remove(2);
        vault.put(3, 4);
        dueValues("in the place of another", vault, 3, 4);
    }
}
