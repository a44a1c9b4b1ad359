import java.util.Arrays;
import java.util.NoSuchElementException;

/** The terms GOOD and NEWEST: files forged so that one thing alone is wrong with them. */
final class GoodSentences {
    private GoodSentences() {
    }

    static void hold(Held held) {
        held.in("Terms")
            .by("A slot is GOOD for a password if it holds such a file", GoodSentences::goodForItsPasswordAlone)
            .by("the header's first two bytes, rounds and both seals are right", GoodSentences::headerAndSeals)
            .by("the file has room in the slot", GoodSentences::roomInTheSlot)
            .by("and what the stream gives is a content: at most 8 entries", GoodSentences::atMostEightEntries)
            .by("names not 0 and each greater than the one before", GoodSentences::namesGrow)
            .by("at most two old values each", GoodSentences::atMostTwoOldValues)
            .by("and just so many bytes.", GoodSentences::justSoManyBytes)
            .by("The NEWEST good slot is that with the greatest serial", GoodSentences::greatestSerial)
            .by("of two slot 0.", GoodSentences::ofTwoSlotZero);
    }

    /** Whether the file is good in either slot, and then opened, and then saved beside; and refused if not. */
    private static void dueGood(String what, byte[] file, boolean due) {
        for (int slot = 0; slot < 2; slot++) {
            CrashVault vault = new CrashVault();
            Files.lay(vault, 300 * slot, file);
            Check.due(what + ": isGood(" + slot + ")", vault.isGood(slot, Forgery.PASSWORD), due);
            Check.due(what + ": isGood(" + (1 - slot) + ")", vault.isGood(1 - slot, Forgery.PASSWORD), false);
            if (due) {
                Check.due(what + ": open", vault.open(Forgery.PASSWORD), 7);
                vault.save(1000);
                Check.due(what + ": the other slot's serial", vault.disk(302 - 300 * slot), 8);
            } else {
                Check.refused(what + ": open", NoSuchElementException.class, () -> vault.open(Forgery.PASSWORD));
                Check.due(what + ": isOpen()", vault.isOpen(), false);
            }
        }
    }

    private static void dueContent(String what, byte[] content, boolean due) {
        dueGood(what, new Forgery(content).bytes(), due);
    }

    private static void goodForItsPasswordAlone() {
        CrashVault vault = new CrashVault();
        Check.due("a new disk: isGood(0, 0)", vault.isGood(0, 0), false);
        Check.due("a new disk: isGood(1, 0)", vault.isGood(1, 0), false);
        Files.lay(vault, 300, new Forgery(Files.content(new long[] {1, 2})).bytes());
        Check.due("isGood(1, its own)", vault.isGood(1, Forgery.PASSWORD), true);
        for (int bit = 0; bit < 64; bit++) {
            Check.due("isGood(1, bit " + bit + " off)", vault.isGood(1, Forgery.PASSWORD ^ 1L << bit), false);
        }
        for (int slot = 0; slot < 2; slot++) {
            CrashVault two = new CrashVault();
            Files.lay(two, 300 * slot, Files.file(5, 9, 3, 1, Files.content()));
            Files.lay(two, 300 - 300 * slot, Files.file(6, 9, 3, 1, Files.content()));
            Check.due("one each: isGood(" + slot + ", 5)", two.isGood(slot, 5), true);
            Check.due("one each: isGood(" + slot + ", 6)", two.isGood(slot, 6), false);
            Check.due("one each: isGood(" + (1 - slot) + ", 5)", two.isGood(1 - slot, 5), false);
            Check.due("one each: isGood(" + (1 - slot) + ", 6)", two.isGood(1 - slot, 6), true);
        }
    }

    private static void headerAndSeals() {
        byte[] none = Files.content();
        for (int mark = 0; mark < 256; mark++) {
            dueGood("first byte " + mark, new Forgery(none).marks(mark, 0x32).bytes(), mark == 0x56);
            dueGood("second byte " + mark, new Forgery(none).marks(0x56, mark).bytes(), mark == 0x32);
        }
        for (int rounds : new int[] {0, 1, 2, 39, 40, 41, 127, 128, 129, 255}) {
            dueGood("rounds " + rounds, new Forgery(none).rounds(rounds).bytes(), rounds >= 1 && rounds <= 40);
        }
        for (int bit = 0; bit < 64; bit++) {
            dueGood("the header's seal, bit " + bit, new Forgery(none).headerSealBit(bit).bytes(), false);
            dueGood("the file's seal, bit " + bit, new Forgery(none).fileSealBit(bit).bytes(), false);
        }
    }

    /** A file of 300 bytes has room and one of 301 has not; neither is a content's, but the look must end well. */
    private static void roomInTheSlot() {
        dueContent("the largest content, 265 bytes", Files.content(Files.rows(8, 2)), true);
        for (int bytes : new int[] {266, 270, 271}) {
            dueContent("told and there " + bytes, Arrays.copyOf(Files.content(Files.rows(8, 2)), bytes), false);
        }
        for (int told : new int[] {0, 2, 17, 270, 271, 272, 273, 300, 570, 571, 572, 600, 0x7fff, 0x8000, 0xffff}) {
            dueGood("told " + told + " of 1", new Forgery(Files.content()).told(told).bytes(), false);
        }
        for (int high = 1; high < 256; high++) {
            byte[] file = new Forgery(Files.content()).told(1 + 256 * high).bytes();
            dueGood("told " + (1 + 256 * high) + " of 1", file, false);
        }
        overTheSlotsEnd();
    }

    /** All of the file is on the disk, the end of it in the other slot. */
    private static void overTheSlotsEnd() {
        for (int bytes : new int[] {272, 273, 290}) {
            CrashVault vault = new CrashVault();
            Files.lay(vault, 0, new Forgery(Arrays.copyOf(Files.content(Files.rows(8, 2)), bytes)).bytes());
            Check.due("from slot 0 over its end, " + bytes + ": isGood(0)", vault.isGood(0, Forgery.PASSWORD), false);
        }
    }

    private static byte[] numbered(int entries, byte[] content) {
        byte[] other = content.clone();
        other[0] = (byte) entries;
        return other;
    }

    private static void atMostEightEntries() {
        for (int entries = 0; entries <= 15; entries++) {
            dueContent(entries + " entries", Files.content(Files.rows(entries, 0)), entries <= 8);
        }
        for (int told = 0; told < 256; told++) {
            dueContent(told + " told, none there", numbered(told, Files.content()), told == 0);
            dueContent(told + " told, two there", numbered(told, Files.content(Files.rows(2, 0))), told == 2);
        }
        for (int told : new int[] {0, 7, 8, 9, 10, 255}) {
            dueContent(told + " told, eight there", numbered(told, Files.content(Files.rows(8, 2))), told == 8);
        }
    }

    private static void namesGrow() {
        long[][] grow = {{1}, {-1}, {Long.MIN_VALUE}, {Long.MAX_VALUE}, {1, 2}, {-1, 1}, {Long.MIN_VALUE, Long.MAX_VALUE},
            {0x7fffffffL, 0x80000000L}, {0xffffffffL, 1L << 32}, {2, 1L << 32}, {-1L << 32, -1}, {1L << 40, 1L << 48}};
        for (long[] names : grow) {
            dueContent("names " + Arrays.toString(names), named(names), true);
        }
        for (long[] names : grow) {
            if (names.length == 2) {
                long[] turned = {names[1], names[0]};
                dueContent("names " + Arrays.toString(turned), named(turned), false);
            }
            long[] twice = {names[0], names[0]};
            dueContent("names " + Arrays.toString(twice), named(twice), false);
        }
        dueContent("the name 0", named(0), false);
        dueContent("the name 0 behind -1", named(-1, 0), false);
        dueContent("the name 0 before 1", named(0, 1), false);
        dueContent("the name 0 between", named(-1, 0, 1), false);
        dueContent("the name with a low half of 0", named(1L << 32), true);
        for (int at = 0; at < 8; at++) {
            long[] names = {-40, -30, -20, -10, 10, 20, 30, 40};
            names[at] = at == 0 ? names[1] : names[at - 1];
            dueContent("as the one beside it at " + at, named(names), false);
            names[at] = 0;
            dueContent("the name 0 at " + at, named(names), false);
        }
    }

    private static byte[] named(long... names) {
        long[][] rows = new long[names.length][];
        for (int i = 0; i < names.length; i++) {
            rows[i] = new long[] {names[i], i};
        }
        return Files.content(rows);
    }

    private static void atMostTwoOldValues() {
        for (int oldValues = 0; oldValues <= 10; oldValues++) {
            dueContent(oldValues + " old values", Files.content(Files.rows(1, oldValues)), oldValues <= 2);
            byte[] last = Files.content(new long[] {-3, 1, 2}, new long[] {-2, 3}, Files.rows(1, oldValues)[0]);
            dueContent(oldValues + " old values of the last", last, oldValues <= 2);
        }
        dueContent("old values as the value is", Files.content(new long[] {1, 5, 5, 5}), true);
        for (int there = 0; there <= 2; there++) {
            for (int told = 0; told < 256; told++) {
                byte[] content = Files.content(Files.rows(1, there));
                content[9] = (byte) told;
                dueContent(told + " old values told, " + there + " there", content, told == there);
            }
        }
    }

    private static void justSoManyBytes() {
        byte[][] contents = {Files.content(), Files.content(Files.rows(1, 0)),
            Files.content(new long[] {1, 10}, new long[] {2, 20, 21, 22}), Files.content(Files.rows(8, 2))};
        for (byte[] content : contents) {
            for (int bytes = Math.max(0, content.length - 60); bytes <= content.length + 6; bytes++) {
                String what = bytes + " bytes of a content of " + content.length;
                dueContent(what, Arrays.copyOf(content, bytes), bytes == content.length);
            }
        }
    }

    private static CrashVault twoSlots(int serial0, int serial1) {
        CrashVault vault = new CrashVault();
        Files.lay(vault, 0, Files.file(5, 8, 3, serial0, Files.content(new long[] {1, 100})));
        Files.lay(vault, 300, Files.file(5, 9, 4, serial1, Files.content(new long[] {1, 101})));
        return vault;
    }

    /** The newest is opened, and the other one is saved over. */
    private static void dueNewest(int serial0, int serial1, int slot) {
        String what = "serials " + serial0 + " and " + serial1;
        int serial = slot == 0 ? serial0 : serial1;
        CrashVault vault = twoSlots(serial0, serial1);
        Check.due(what + ": open(5)", vault.open(5), serial);
        Check.due(what + ": serial()", vault.serial(), serial);
        Check.due(what + ": value(1, 0)", vault.value(1, 0), 100 + slot);
        Check.due(what + ": save(1000)", vault.save(1000), true);
        byte[] due = Files.file(5, 8 + slot, 3 + slot, serial + 1, Files.content(new long[] {1, 100 + slot}));
        Files.dueOnDisk(what, vault, 300 - 300 * slot, due);
    }

    private static void greatestSerial() {
        int[][] serials = {{1, 2}, {-1, 1}, {-1, 0}, {-2, -1}, {Integer.MIN_VALUE, Integer.MAX_VALUE},
            {Integer.MIN_VALUE, -1}, {Integer.MAX_VALUE - 1, Integer.MAX_VALUE}, {0xff, 0x100}, {0x01000000, 0x7f000000},
            {0x00ffffff, 0x01000000}, {1, 1000000}};
        for (int[] pair : serials) {
            dueNewest(pair[0], pair[1], 1);
            dueNewest(pair[1], pair[0], 0);
        }
        notTheNewestThatIsNotGood();
        afterTheWrap();
    }

    private static void notTheNewestThatIsNotGood() {
        CrashVault vault = twoSlots(1, 2);
        vault.spoil(321, 1);
        Check.due("slot 1 spoiled: open(5)", vault.open(5), 1);
        vault.spoil(321, 1);
        Check.due("slot 1 mended: open(5)", vault.open(5), 2);
        CrashVault other = twoSlots(2, 1);
        other.spoil(13, 128);
        Check.due("slot 0 spoiled: open(5)", other.open(5), 1);
        other.spoil(13, 128);
        Check.due("slot 0 mended: open(5)", other.open(5), 2);
        CrashVault both = twoSlots(2, 1);
        both.spoil(0, 1);
        both.spoil(300, 1);
        Check.refused("both spoiled: open(5)", NoSuchElementException.class, () -> both.open(5));
    }

    /** The serial behind 2147483647 is the least: what was saved before stays the newest. */
    private static void afterTheWrap() {
        CrashVault vault = twoSlots(Integer.MAX_VALUE - 1, Integer.MAX_VALUE);
        vault.open(5);
        vault.put(1, 1);
        Check.due("the wrap: save(1000)", vault.save(1000), true);
        Check.due("the wrap: serial()", vault.serial(), Integer.MIN_VALUE);
        vault.put(1, 2);
        Check.due("the wrap: save(1000) again", vault.save(1000), true);
        byte[] due = Files.file(5, 9, 4, Integer.MIN_VALUE + 1, Files.content(new long[] {1, 2, 1, 101}));
        Files.dueOnDisk("the wrap", vault, 0, due);
        Check.due("the wrap: open(5)", vault.open(5), Integer.MAX_VALUE);
        Check.due("the wrap: value(1, 0)", vault.value(1, 0), 101);
    }

    private static void ofTwoSlotZero() {
        for (int serial : new int[] {0, 1, -1, 5, Integer.MAX_VALUE, Integer.MIN_VALUE}) {
            dueNewest(serial, serial, 0);
        }
    }
}
