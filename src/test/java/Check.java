import java.util.zip.CRC32;

/** What the tests share: counting wrong answers, names as words, numbers on the disk, a disk that boots. */
final class Check {
    static final long KERNEL = name("KERNEL"), LOADER = name("LOADER");
    static final int LEAST = Integer.MIN_VALUE, MOST = Integer.MAX_VALUE;

    private static final int[] BOOT_BYTES = {40, 115, 42, 193, 31, 248, 210, 17, 186, 75, 0, 160, 201, 62, 201, 59};

    private static int wrong = 0;

    private Check() {
    }

    static void due(String call, long got, long want) {
        if (got != want) {
            wrong++;
            if (wrong <= 40) {
                System.out.println(call + " answered " + got + ", due is " + want);
            }
        }
    }

    static void due(String call, boolean got, boolean want) {
        due(call, got ? 1 : 0, want ? 1 : 0);
    }

    static void finish() {
        if (wrong != 0) {
            System.out.println(wrong + " answers are not as due");
            System.exit(1);
        }
    }

    static long name(String text) {
        long word = 0;
        for (char c : text.toCharArray()) {
            word = word << 8 | c;
        }
        return word;
    }

    static int crc(byte[] bytes) {
        CRC32 crc = new CRC32();
        crc.update(bytes);
        return (int) crc.getValue();
    }

    static void dueBytes(String what, Maker x, int at, int... want) {
        for (int i = 0; i < want.length; i++) {
            due(what + ": byteAt(" + (at + i) + ")", x.byteAt(at + i), want[i]);
        }
    }

    static void dueText(String what, Maker x, int at, String want) {
        dueBytes(what, x, at, want.chars().toArray());
    }

    /** All bytes from one address to before another are 0. */
    static void dueEmpty(String what, Maker x, int from, int to) {
        if (x.sum(from, to - from) != crc(new byte[to - from])) {
            for (int i = from; i < to; i++) {
                due(what + ": byteAt(" + i + ")", x.byteAt(i), 0);
            }
        }
    }

    /** The whole disk, which ends where the model's does, holds what the model's holds. */
    static void dueDisk(String what, Maker x, Model model) {
        int end = model.disk.length;
        due(what + ": byteAt(" + end + ")", x.byteAt(end), BootMaker.NONE);
        if (x.sum(0, end) != crc(model.disk)) {
            due(what + ": sum of the disk", x.sum(0, end), crc(model.disk));
            for (int i = 0; i < end; i++) {
                due(what + ": byteAt(" + i + ")", x.byteAt(i), model.byteAt(i));
            }
        }
    }

    static long low(Maker x, int at, int bytes) {
        long value = 0;
        for (int i = 0; i < bytes; i++) {
            value |= (long) x.byteAt(at + i) << 8 * i;
        }
        return value;
    }

    static void dueLow(String what, Maker x, int at, int bytes, long want) {
        due(what + ": low" + bytes + " at " + at, low(x, at, bytes), want);
    }

    static void pokeLow(Maker x, int at, int bytes, long value) {
        for (int i = 0; i < bytes; i++) {
            x.poke(at + i, (int) (value >>> 8 * i));
        }
    }

    static void pokeText(Maker x, int at, String text) {
        for (int i = 0; i < text.length(); i++) {
            x.poke(at + i, text.charAt(i));
        }
    }

    /** The sum of a header made right again, so that a test can spoil what lies under it. */
    static void sealHeader(Maker x, int sector) {
        pokeLow(x, sector * 512 + 16, 4, 0);
        pokeLow(x, sector * 512 + 16, 4, x.sum(sector * 512, 92));
    }

    /** The sum of the entries that a header tells of, and then its own, made right again. */
    static void seal(Maker x, int sector) {
        long entries = low(x, sector * 512 + 72, 8);
        if (entries >= 0 && entries < 600) {
            pokeLow(x, sector * 512 + 88, 4, x.sum((int) entries * 512, 128 * 128));
        }
        sealHeader(x, sector);
    }

    /** An entry of the table in sectors 2 .. 33 becomes a boot partition. */
    static void pokeBootEntry(Maker x, int k, long first, long last) {
        int at = 1024 + 128 * k;
        for (int i = 0; i < 16; i++) {
            x.poke(at + i, BOOT_BYTES[i]);
        }
        pokeLow(x, at + 32, 8, first);
        pokeLow(x, at + 40, 8, last);
    }

    /** What {@link #usual} makes, not written yet. */
    static Maker planned() {
        Maker x = new Maker(160);
        x.partition(0, 40);
        x.partition(1, 20);
        x.file(LOADER, 1200, 3, true);
        x.file(name("DATA"), 700, 9, false);
        x.file(KERNEL, 1500, 40, false);
        x.address(4096);
        return x;
    }

    /** A disk of 160 sectors with a boot partition at 40 of 40 sectors: LOADER (clusters 2 4 6), DATA (3 5), KERNEL (7 8 9). */
    static Maker usual() {
        Maker x = planned();
        due("write()", x.write(), 0);
        return x;
    }

    /** The usual disk's boot partition, its first cluster table and its directory. */
    static final int VOLUME = 40 * 512, TABLE = 41 * 512, DIRECTORY = 43 * 512;

    /** KERNEL's place in the usual disk's directory. */
    static final int KERNEL_ENTRY = DIRECTORY + 64;

    /** Where a cluster's sector begins on the usual disk. */
    static int cluster(int number) {
        return (45 + number - 2) * 512;
    }

    /** An entry of a cluster table that begins at a sector. */
    static int entry(Maker x, int sector, int e) {
        int pair = (int) low(x, sector * 512 + e * 3 / 2, 2);
        return e % 2 == 0 ? pair % 4096 : pair / 16;
    }

    /** Changes an entry of the first cluster table of a partition that begins at 40. */
    static void setEntry(Maker x, int e, int value) {
        int at = TABLE + e * 3 / 2;
        int pair = (int) low(x, at, 2);
        pokeLow(x, at, 2, e % 2 == 0 ? pair & 0xF000 | value : pair & 15 | value << 4);
    }
}
