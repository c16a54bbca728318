import java.util.NoSuchElementException;

/** What the tests share: counting wrong answers, names as words, calls that may throw. */
final class Check {
    static final long KERNEL = name("KERNEL"), LOADER = name("LOADER");
    /** Answers that stand for an exception; no call of the class answers these. */
    static final int ILLEGAL = -1001, NO_SUCH = -1002;

    private static int wrong = 0;

    private Check() {
    }

    static void due(String call, long got, long want) {
        if (got != want) {
            wrong++;
            if (wrong <= 40) {
                System.out.println(call + " answered " + got + ", due is " + want);
            }
        }
    }

    static void due(String call, boolean got, boolean want) {
        due(call, got ? 1 : 0, want ? 1 : 0);
    }

    static void finish() {
        if (wrong != 0) {
            System.out.println(wrong + " answers are not as due");
            System.exit(1);
        }
    }

    static long name(String text) {
        long word = 0;
        for (char c : text.toCharArray()) {
            word = word << 8 | c;
        }
        return word;
    }

    static int boot(BootMaker x, int mode) {
        try {
            return x.boot(mode);
        } catch (IllegalArgumentException e) {
            return ILLEGAL;
        }
    }

    static int memory(BootMaker x, int address) {
        try {
            return x.memory(address);
        } catch (NoSuchElementException e) {
            return NO_SUCH;
        }
    }

    static void dueBytes(String what, BootMaker x, int at, int... want) {
        for (int i = 0; i < want.length; i++) {
            due(what + ": byteAt(" + (at + i) + ")", x.byteAt(at + i), want[i]);
        }
    }

    static void dueText(String what, BootMaker x, int at, String want) {
        dueBytes(what, x, at, want.chars().toArray());
    }

    static long low(BootMaker x, int at, int bytes) {
        long value = 0;
        for (int i = 0; i < bytes; i++) {
            value |= (long) x.byteAt(at + i) << 8 * i;
        }
        return value;
    }

    static void dueLow(String what, BootMaker x, int at, int bytes, long want) {
        due(what + ": low" + bytes + " at " + at, low(x, at, bytes), want);
    }

    static void pokeLow(BootMaker x, int at, int bytes, long value) {
        for (int i = 0; i < bytes; i++) {
            x.poke(at + i, (int) (value >>> 8 * i));
        }
    }

    static void pokeText(BootMaker x, int at, String text) {
        for (int i = 0; i < text.length(); i++) {
            x.poke(at + i, text.charAt(i));
        }
    }

    static byte[] image(BootMaker x, int sectors) {
        byte[] bytes = new byte[sectors * 512];
        for (int i = 0; i < bytes.length; i++) {
            bytes[i] = (byte) x.byteAt(i);
        }
        return bytes;
    }

    /** Both sums of a header made right again, so that a test can spoil what lies under them. */
    static void seal(BootMaker x, int headerSector) {
        int at = headerSector * 512;
        long entries = low(x, at + 72, 8);
        if (entries >= 0 && entries < 600) {
            pokeLow(x, at + 88, 4, x.sum((int) entries * 512, 128 * 128));
        }
        pokeLow(x, at + 16, 4, 0);
        pokeLow(x, at + 16, 4, x.sum(at, 92));
    }

    /** A disk of 160 sectors with a boot partition at 40 of 40 sectors: LOADER (clusters 2 4 6), DATA (3 5), KERNEL (7 8 9). */
    static BootMaker usual() {
        BootMaker x = new BootMaker(160);
        x.partition(0, 40);
        x.partition(1, 20);
        x.file(LOADER, 1200, 3, true);
        x.file(name("DATA"), 700, 9, false);
        x.file(KERNEL, 1500, 40, false);
        x.address(4096);
        due("write()", x.write(), 0);
        return x;
    }

    /** Where a cluster's sector begins on the usual disk. */
    static int cluster(int number) {
        return (45 + number - 2) * 512;
    }

    /** Where the directory begins on the usual disk. */
    static final int DIRECTORY = 43 * 512;

    /** Where the first cluster table begins on the usual disk. */
    static final int TABLE = 41 * 512;
}
