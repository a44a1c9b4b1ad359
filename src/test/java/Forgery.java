/** A file of which single parts are wrong on purpose, while its seals are right for what it says. */
final class Forgery {
    static final long PASSWORD = 0x0123456789abcdefL;
    static final int SALT = 9;

    private final byte[] content;
    private int mark0 = 0x56;
    private int mark1 = 0x32;
    private int serial = 7;
    private int rounds = 1;
    private int told;
    private int headerSealBit = -1;
    private int fileSealBit = -1;

    Forgery(byte[] content) {
        this.content = content;
        this.told = content.length;
    }

    Forgery marks(int first, int second) {
        mark0 = first;
        mark1 = second;
        return this;
    }

    Forgery serial(int serial) {
        this.serial = serial;
        return this;
    }

    Forgery rounds(int rounds) {
        this.rounds = rounds;
        return this;
    }

    /** What the header says of the content's bytes, however many there are. */
    Forgery told(int told) {
        this.told = told;
        return this;
    }

    /** This bit of the header's seal is wrong; the file's seal is right for it. */
    Forgery headerSealBit(int bit) {
        headerSealBit = bit;
        return this;
    }

    Forgery fileSealBit(int bit) {
        fileSealBit = bit;
        return this;
    }

    byte[] bytes() {
        int[] key = Files.key(PASSWORD, SALT, rounds);
        byte[] header = Files.header(mark0, mark1, serial, SALT, rounds, told);
        byte[] headerSeal = flipped(Files.firstTwo(Files.seal(header, key, 3)), headerSealBit);
        byte[] before = Files.joined(header, headerSeal, Files.streamed(content, key, serial));
        return Files.joined(before, flipped(Files.firstTwo(Files.seal(before, key, 4)), fileSealBit));
    }

    private static byte[] flipped(byte[] bytes, int bit) {
        if (bit >= 0) {
            bytes[bit / 8] ^= (byte) (1 << bit % 8);
        }
        return bytes;
    }
}
