import java.util.Arrays;
import java.util.NoSuchElementException;

/** What the document says before its terms. */
final class HeadSentences {
    private HeadSentences() {
    }

    static void hold(Held held) {
        held.in("What it is")
            .by("A vault of names and values with what these were before, kept under a password on a disk with two"
                + " slots", HeadSentences::keptUnderItsPassword)
            .by("it is saved into the slot that is not the newest good one, so that power that fails at any byte"
                + " leaves the vault as it was saved before, or as it is saved now",
                HeadSentences::beforeOrNow)
            .by("and nothing that was changed on the disk is taken for good.", HeadSentences::nothingChangedIsGood)
            .by("An object is used for at most 512 calls after it has been made; what later calls answer is free.",
                HeadSentences::theLastOf512Calls);
    }

    private static void keptUnderItsPassword() {
        CrashVault vault = Scene.made();
        long[][] rows = Files.rows(8, 2);
        Files.put(vault, rows);
        String due = Told.entries(vault);
        vault.save(1000);
        vault.shut();
        Check.refused("open(4)", NoSuchElementException.class, () -> vault.open(4));
        Check.due("open(5)", vault.open(5), 2);
        Check.due("the entries", Told.entries(vault), due);
        for (long[] row : rows) {
            for (int back = 0; back < 3; back++) {
                Check.due("value(" + row[0] + ", " + back + ")", vault.value(row[0], back), row[1 + back]);
            }
        }
    }

    /** Saved to either slot, over a shorter file and over a longer one. */
    private static void beforeOrNow() {
        for (int saves = 2; saves <= 3; saves++) {
            for (int entries : new int[] {0, 1, 3}) {
                powerAtEveryByte(saves, entries);
            }
        }
    }

    private static CrashVault toBeSaved(int saves, int entries) {
        CrashVault vault = Scene.made();
        vault.put(1, 7);
        vault.put(2, 8);
        for (int save = 0; save < saves; save++) {
            vault.save(1000);
        }
        vault.remove(1);
        vault.remove(2);
        Files.put(vault, Files.rows(entries, 1));
        return vault;
    }

    private static void powerAtEveryByte(int saves, int entries) {
        byte[] now = Files.file(5, 9, 3, saves + 2, Files.content(Files.rows(entries, 1)));
        int target = saves % 2 == 0 ? 300 : 0;
        for (int power = 0; power <= now.length; power++) {
            CrashVault vault = toBeSaved(saves, entries);
            String call = saves + " saves, " + entries + " entries: save(" + power + ")";
            String dueNow = Told.entries(vault);
            Check.due(call, vault.save(power), power == now.length);
            vault.shut();
            // The last bytes may have stood there already.
            boolean whole = Arrays.equals(onDisk(vault, target, now.length), now);
            Check.due(call + ": open(5)", vault.open(5), whole ? saves + 2 : saves + 1);
            Check.due(call + ": the entries", Told.entries(vault), whole ? dueNow
                : "1 is 7 java.util.NoSuchElementException java.util.NoSuchElementException; "
                + "2 is 8 java.util.NoSuchElementException java.util.NoSuchElementException; ");
        }
    }

    private static byte[] onDisk(CrashVault vault, int from, int bytes) {
        byte[] row = new byte[bytes];
        for (int i = 0; i < bytes; i++) {
            row[i] = (byte) vault.disk(from + i);
        }
        return row;
    }

    /** Every bit of the newest file: without it the file before is opened. */
    private static void nothingChangedIsGood() {
        for (int saves = 1; saves <= 2; saves++) {
            int at = saves == 1 ? 300 : 0;
            int bytes = 29 + 1 + 17 + 25;
            for (int bit = 0; bit < 8 * bytes; bit++) {
                CrashVault vault = Scene.made();
                vault.put(1, 1);
                vault.put(2, 2);
                vault.put(2, 3);
                for (int save = 0; save < saves; save++) {
                    vault.save(1000);
                }
                String call = saves + " saves, spoil(" + (at + bit / 8) + ", " + (1 << bit % 8) + ")";
                vault.spoil(at + bit / 8, 1 << bit % 8);
                Check.due(call + ": open(5)", vault.open(5), saves);
                vault.spoil(at + bit / 8, 1 << bit % 8);
                Check.due(call + " again: open(5)", vault.open(5), saves + 1);
            }
        }
    }

    /** The dearest calls up to the 512th, which answers as it should. */
    private static void theLastOf512Calls() {
        CrashVault saving = Scene.made();
        for (int call = 2; call <= 511; call++) {
            Check.due("call " + call + ": save(1000)", saving.save(1000), true);
        }
        Check.due("call 512: serial()", saving.serial(), 511);
        CrashVault putting = Scene.made();
        for (int call = 2; call <= 510; call++) {
            putting.put(1 + call % 8, call);
        }
        Check.due("call 511: put(7, 511)", putting.put(7, 511), false);
        Check.due("call 512: value(7, 1)", putting.value(7, 1), 510);
        CrashVault opening = Scene.made();
        for (int call = 2; call <= 511; call++) {
            Check.due("call " + call + ": open(5)", opening.open(5), 1);
        }
        Check.refused("call 512: open(4)", NoSuchElementException.class, () -> opening.open(4));
    }
}
