import java.util.Arrays;
import java.util.Random;
import java.util.function.LongSupplier;

/** Long runs of mixed calls, right and wrong ones, each with the answer of the model. */
public final class RunsTest {
    private static final int RUNS = 600;
    private static final int CALLS = 512;
    private static final long[] PASSWORDS = {5, 5L | 1L << 32, 0, -1};
    private static final long[] NAMES = {0, 1, 2, 3, -1, -2, 1L << 32, 1L << 33, Long.MIN_VALUE, Long.MAX_VALUE, 9, 10};
    private static final long[] VALUES = {0, 1, -1, Long.MAX_VALUE, 1L << 32};
    private static final int[] ROUNDS = {1, 2, 3, 40, 1, 2, 3, 4, 1, 2, 0, 41};
    private static final int[] SERIALS = {0, 1, 2, -1, Integer.MAX_VALUE, Integer.MAX_VALUE - 1, Integer.MIN_VALUE};
    private static final byte[][] CONTENTS = {Files.content(), Files.content(Files.rows(1, 0)),
        Files.content(Files.rows(2, 2)), Files.content(new long[] {-1, 5, 5, 5}, new long[] {1, 0}),
        Files.content(new long[] {1, 0}, new long[] {-1, 5}), Files.content(new long[] {0, 1}),
        Files.content(Files.rows(1, 3)), Files.content(Files.rows(8, 0)), Files.content(Files.rows(9, 0)),
        Arrays.copyOf(Files.content(Files.rows(2, 1)), 50)};

    private final Random random;
    private final CrashVault vault = new CrashVault();
    private final ModelVault model = new ModelVault();
    private int undoAt = -1;
    private int undoBits;

    private RunsTest(long seed) {
        random = new Random(seed);
    }

    public static void main(String[] args) {
        for (int run = 0; run < RUNS; run++) {
            new RunsTest(run).calls(run);
        }
        Check.end();
    }

    private void calls(int run) {
        int call = run % 3 == 0 ? forge("run " + run + ", forging: ") : 0;
        for (; call < CALLS; call++) {
            oneCall("run " + run + ", call " + call + ": ");
        }
    }

    /** Lays files in the slots, good ones and such with right seals that are not; tells how many calls it took. */
    private int forge(String where) {
        int calls = 0;
        for (int slot = 0; slot < 2; slot++) {
            long password = PASSWORDS[random.nextInt(random.nextInt(4) == 0 ? PASSWORDS.length : 1)];
            byte[] content = CONTENTS[random.nextInt(CONTENTS.length)];
            byte[] file = Files.file(password, random.nextInt(), ROUNDS[random.nextInt(ROUNDS.length)],
                SERIALS[random.nextInt(SERIALS.length)], content);
            for (int i = 0; i < file.length; i++) {
                int at = 300 * slot + i;
                int bits = file[i];
                if (bits != 0) {
                    same(where + "spoil " + at, () -> run(() -> vault.spoil(at, bits)),
                        () -> run(() -> model.spoil(at, bits)));
                    calls++;
                }
            }
        }
        return calls;
    }

    private void oneCall(String where) {
        int kind = random.nextInt(100);
        long password = PASSWORDS[random.nextInt(random.nextInt(10) == 0 ? PASSWORDS.length : 1)];
        long name = NAMES[random.nextInt(NAMES.length)];
        int index = random.nextInt(20) == 0 ? random.nextInt() : random.nextInt(12) - 1;
        if (kind < 2) {
            int salt = random.nextInt();
            int rounds = ROUNDS[random.nextInt(ROUNDS.length)];
            int power = random.nextInt(3) == 0 ? random.nextInt(34) - 2 : 1000;
            same(where + "make", () -> bit(vault.make(password, salt, rounds, power)),
                () -> bit(model.make(password, salt, rounds, power)));
        } else if (kind < 10) {
            same(where + "open", () -> vault.open(password), () -> model.open(password));
        } else if (kind < 11) {
            same(where + "shut", () -> bit(vault.shut()), () -> bit(model.shut()));
        } else if (kind < 15) {
            same(where + "isOpen", () -> bit(vault.isOpen()), () -> bit(model.isOpen()));
        } else if (kind < 18) {
            same(where + "length", () -> vault.length(), () -> model.length());
        } else if (kind < 28) {
            int power = power();
            same(where + "save " + power, () -> bit(vault.save(power)), () -> bit(model.save(power)));
        } else if (kind < 29) {
            int rounds = ROUNDS[random.nextInt(ROUNDS.length)];
            same(where + "renew", () -> run(() -> vault.renew(password, rounds)),
                () -> run(() -> model.renew(password, rounds)));
        } else if (kind < 33) {
            same(where + "serial", () -> vault.serial(), () -> model.serial());
        } else if (kind < 53) {
            long value = VALUES[random.nextInt(VALUES.length)];
            same(where + "put", () -> bit(vault.put(name, value)), () -> bit(model.put(name, value)));
        } else if (kind < 56) {
            same(where + "remove", () -> bit(vault.remove(name)), () -> bit(model.remove(name)));
        } else if (kind < 60) {
            same(where + "entries", () -> vault.entries(), () -> model.entries());
        } else if (kind < 67) {
            same(where + "name " + index, () -> vault.name(index), () -> model.name(index));
        } else if (kind < 78) {
            int back = random.nextInt(5) - 1;
            same(where + "value " + back, () -> vault.value(name, back), () -> model.value(name, back));
        } else if (kind < 89) {
            int at = diskPlace();
            same(where + "disk " + at, () -> vault.disk(at), () -> model.disk(at));
        } else if (kind < 92) {
            spoilOrUndo(where);
        } else {
            int slot = random.nextInt(20) == 0 ? index : random.nextInt(2);
            same(where + "isGood " + slot, () -> bit(vault.isGood(slot, password)),
                () -> bit(model.isGood(slot, password)));
        }
    }

    private int power() {
        int kind = random.nextInt(8);
        int length = model.isOpen() ? model.length() : 30;
        return kind == 0 ? length - 1 : kind == 1 ? random.nextInt(320) - 2 : kind == 2 ? length : 1000;
    }

    private int diskPlace() {
        return random.nextInt(20) == 0 ? random.nextInt(700) - 50 : random.nextInt(2) * 300 + random.nextInt(150);
    }

    private void spoilOrUndo(String where) {
        boolean undo = undoAt >= 0 && random.nextInt(3) != 0;
        int at = undo ? undoAt : diskPlace();
        int bits = undo ? undoBits : random.nextInt();
        same(where + "spoil " + at, () -> run(() -> vault.spoil(at, bits)), () -> run(() -> model.spoil(at, bits)));
        undoAt = undo ? -1 : at;
        undoBits = bits;
    }

    private static void same(String call, LongSupplier got, LongSupplier due) {
        Check.due(call, told(got), told(due));
    }

    private static String told(LongSupplier call) {
        try {
            return Long.toString(call.getAsLong());
        } catch (RuntimeException e) {
            return e.getClass().getName();
        }
    }

    private static long bit(boolean answer) {
        return answer ? 1 : 0;
    }

    private static long run(Runnable call) {
        call.run();
        return 0;
    }
}
