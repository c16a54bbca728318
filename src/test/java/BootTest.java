/** Promise 10: boot: each reason, each of its causes, and which comes first. */
public final class BootTest {
    private static final int[] BOOT = {40, 115, 42, 193, 31, 248, 210, 17, 186, 75, 0, 160, 201, 62, 201, 59};

    public static void main(String[] args) {
        modes();
        marks();
        headerFields();
        headersLeftAlone();
        entryPlaces();
        bootEntries();
        runs();
        loaderBytes();
        volume();
        volumeSizes();
        kernelEntry();
        chain();
        kernel();
        bigKernel();
        orderOfReasons();
        Check.finish();
    }

    private static void due(String what, BootMaker x, int mode, int want) {
        Check.due(what + ": boot(" + mode + ")", Check.boot(x, mode), want);
    }

    /** Boots with one number on the disk changed, then puts back what was there. */
    private static void spoiled(BootMaker x, int mode, int at, int bytes, long value, int want) {
        long before = Check.low(x, at, bytes);
        Check.pokeLow(x, at, bytes, value);
        due(value + " at " + at, x, mode, want);
        Check.pokeLow(x, at, bytes, before);
    }

    private static void modes() {
        BootMaker x = Check.usual();
        for (int mode : new int[] {-1, 2, 3, Integer.MAX_VALUE, Integer.MIN_VALUE}) {
            due("before any", x, mode, Check.ILLEGAL);
        }
        Check.due("booted(0)", x.booted(0), BootMaker.NONE);
        due("the table", x, 0, 0);
        due("the loader", x, 1, 0);
        due("no such mode", x, 2, Check.ILLEGAL);
        due("empty disk", new BootMaker(100), 0, 1);
        due("empty disk", new BootMaker(100), 1, 1);
        BootMaker y = new BootMaker(100);
        y.write();
        due("no partitions", y, 0, 4);
        due("no loader", y, 1, 9);
    }

    private static void marks() {
        BootMaker x = Check.usual();
        for (int mode = 0; mode < 2; mode++) {
            spoiled(x, mode, 510, 1, 84, 1);
            spoiled(x, mode, 511, 1, 0, 1);
            spoiled(x, mode, 510, 2, 85 * 256 + 170, 1);
            spoiled(x, mode, 0, 2, 0, 0);
        }
        spoiled(x, 0, 450, 1, 239, 2);
        spoiled(x, 1, 450, 1, 239, 0);
    }

    private static void headerFields() {
        int[][] fields = {{0, 1, 68}, {7, 1, 0}, {12, 4, 93}, {12, 4, 0x1000005C}, {24, 8, 2}, {25, 1, 1}, {31, 1, 1},
            {80, 4, 127}, {80, 4, 256}, {83, 1, 1}, {84, 4, 64}, {87, 1, 1}};
        for (int[] field : fields) {
            BootMaker x = Check.usual();
            int first = 512 + field[0];
            Check.pokeLow(x, first, field[1], field[2]);
            Check.seal(x, 1);
            due("header 1, " + field[2] + " at " + field[0], x, 0, 0);
            Check.due("its copy is used", x.booted(0), 2);
            Check.pokeLow(x, 159 * 512 + field[0], field[1], field[2]);
            Check.seal(x, 159);
            due("both headers, " + field[2] + " at " + field[0], x, 0, 3);
            due("both headers", x, 1, 0);
        }
        BootMaker y = Check.usual();
        for (int at : new int[] {16, 17, 18, 19, 8, 40, 70, 88}) {
            int before = y.poke(512 + at, y.byteAt(512 + at) ^ 4);
            due("header 1 unsealed at " + at, y, 0, 0);
            Check.due("its copy is used", y.booted(0), 2);
            y.poke(512 + at, before);
        }
        y.poke(2 * 512 + 16383, 1);
        due("the last byte of the entries", y, 0, 0);
        Check.due("the copy is used", y.booted(0), 2);
        y.poke(127 * 512 + 5000, 1);
        due("and of its copy", y, 0, 3);
    }

    private static void headersLeftAlone() {
        BootMaker x = Check.usual();
        for (int at : new int[] {8, 9, 10, 11, 20, 23, 32, 40, 48, 56, 71}) {
            x.poke(512 + at, 200);
        }
        Check.seal(x, 1);
        x.poke(512 + 92, 1);
        x.poke(512 + 511, 1);
        due("fields that nobody looks at", x, 0, 0);
        Check.due("the first header is used", x.booted(0), 1);
    }

    private static void entryPlaces() {
        BootMaker x = Check.usual();
        x.poke(159 * 512, 0);
        long[][] places = {{127, 0}, {128, 4}, {129, 3}, {160, 3}, {1L << 32 | 2, 3}, {1L << 62 | 2, 3}, {-1, 3},
            {Long.MIN_VALUE, 3}, {Long.MIN_VALUE | 2, 3}, {2, 0}};
        for (long[] place : places) {
            Check.pokeLow(x, 512 + 72, 8, place[0]);
            Check.seal(x, 1);
            due("entries from sector " + place[0], x, 0, (int) place[1]);
        }
        entriesBehindTheEnd(x);
        // The last 32 sectors, the copy's header among them, hold good entries too if the sums say so.
        for (int i = 0; i < 16; i++) {
            x.poke(128 * 512 + i, BOOT[i]);
        }
        Check.pokeLow(x, 128 * 512 + 32, 8, 40);
        Check.pokeLow(x, 128 * 512 + 40, 8, 40);
        Check.pokeLow(x, 512 + 72, 8, 128);
        Check.seal(x, 1);
        due("entries that end with the disk", x, 0, 0);
        Check.pokeLow(x, 512 + 72, 8, 0);
        Check.seal(x, 1);
        // Sealing spoils the header again, for here it lies among its own entries; so there is no good one.
        due("entries that the header lies in", x, 0, 3);
        BootMaker y = Check.usual();
        y.poke(512, 0);
        Check.pokeLow(y, 159 * 512 + 72, 8, 0);
        Check.seal(y, 159);
        due("the copy's entries begin with the disk", y, 0, 0);
        Check.due("the copy is used", y.booted(0), 2);
    }

    /** Sums that would be right if bytes behind the end were 0, or numbers were cut to their low half, are no excuse. */
    private static void entriesBehindTheEnd(BootMaker x) {
        long[] places = {129, 160, 200, 1L << 32 | 2, 1L << 62 | 2, Long.MIN_VALUE | 2, -1};
        for (long place : places) {
            java.util.zip.CRC32 crc = new java.util.zip.CRC32();
            for (int i = 0; i < 16384; i++) {
                crc.update(Math.max(0, x.byteAt((int) place * 512 + i)));
            }
            Check.pokeLow(x, 512 + 72, 8, place);
            Check.pokeLow(x, 512 + 88, 4, crc.getValue());
            Check.pokeLow(x, 512 + 16, 4, 0);
            Check.pokeLow(x, 512 + 16, 4, x.sum(512, 92));
            due("entries from sector " + place + " as if it were there", x, 0, 3);
        }
    }

    private static void entrySpan(BootMaker x, int entry, long first, long last) {
        Check.pokeLow(x, 1024 + 128 * entry + 32, 8, first);
        Check.pokeLow(x, 1024 + 128 * entry + 40, 8, last);
        Check.seal(x, 1);
    }

    private static void bootEntries() {
        BootMaker x = Check.usual();
        x.poke(159 * 512, 0);
        long[][] spans = {{40, 40, 0}, {40, 39, 4}, {41, 40, 4}, {40, 159, 0}, {40, 160, 4}, {40, 1L << 32, 4}, {40, -1, 4},
            {-1, -1, 4}, {-1, 50, 4}, {Long.MIN_VALUE, 50, 4}, {Long.MIN_VALUE | 40, 79, 4}, {40, Long.MIN_VALUE | 79, 4},
            {1L << 32 | 40, 79, 4}, {159, 159, 5}, {0, 0, 5}, {41, 79, 5}, {40, 79, 0}};
        for (long[] span : spans) {
            entrySpan(x, 0, span[0], span[1]);
            due("boot partition " + span[0] + " .. " + span[1], x, 0, (int) span[2]);
        }
        for (int i = 0; i < 16; i++) {
            int before = x.poke(1024 + i, x.byteAt(1024 + i) ^ 128);
            Check.seal(x, 1);
            due("boot sort spoiled at " + i, x, 0, 4);
            x.poke(1024 + i, before);
        }
        entrySpan(x, 0, 41, 40);
        for (int i = 0; i < 16; i++) {
            x.poke(1024 + 127 * 128 + i, BOOT[i]);
        }
        entrySpan(x, 127, 40, 41);
        due("the last entry", x, 0, 0);
        for (int i = 0; i < 128; i++) {
            x.poke(1024 + 128 * 128 + i, x.byteAt(1024 + 127 * 128 + i));
        }
        entrySpan(x, 127, 40, 39);
        due("one behind the last entry", x, 0, 4);
        entrySpan(x, 127, 40, 41);
        for (int i = 0; i < 16; i++) {
            x.poke(1024 + 60 * 128 + i, BOOT[i]);
        }
        entrySpan(x, 60, 42, 50);
        due("an earlier one, without a file system", x, 0, 5);
        Check.due("its first sector", x.booted(1), 42);
    }

    private static void runs() {
        BootMaker x = Check.usual();
        spoiled(x, 1, 64, 1, 0, 9);
        spoiled(x, 1, 64, 1, 21, 9);
        spoiled(x, 1, 64, 1, 255, 9);
        spoiled(x, 1, 64, 1, 2, 9);
        spoiled(x, 0, 64, 1, 0, 0);
        spoiled(x, 1, 69, 2, 0, 9);
        spoiled(x, 1, 69, 2, 2, 9);
        spoiled(x, 1, 69, 2, 257, 9);
        spoiled(x, 1, 81, 2, 2, 0);
        spoiled(x, 1, 81, 2, 160 - 49, 0);
        spoiled(x, 1, 81, 2, 160 - 49 + 1, 9);
        spoiled(x, 1, 81, 2, 65535, 9);
        spoiled(x, 1, 77, 4, 160, 9);
        spoiled(x, 1, 77, 4, 0x80000031L, 9);
        spoiled(x, 1, 77, 4, 0xFFFFFFFFL, 9);
        spoiled(x, 1, 65, 4, 0, 9);
        spoiled(x, 1, 83, 4, 1199, 9);
        spoiled(x, 1, 83, 4, 1537, 9);
        spoiled(x, 1, 83, 4, 0x800004B0L, 9);
        spoiled(x, 1, 83, 4, 0, 9);
        spoiled(x, 1, 87, 4, 0, 9);
        spoiled(x, 1, 90, 1, x.byteAt(90) ^ 128, 9);
        due("all put back", x, 1, 0);
        BootMaker y = new BootMaker(160);
        y.partition(0, 40);
        y.file(Check.KERNEL, 1500, 5, true);
        y.file(Check.LOADER, 4000, 3, false);
        y.write();
        due("runs of one sector and of several", y, 1, 0);
        y.poke(Check.cluster(9) + 100, 1);
        due("a byte of the last run", y, 1, 9);
    }

    /** Twenty runs of one sector each, the first so many bytes of which are the loader. */
    private static void tellRuns(BootMaker x, int runs, int size) {
        x.poke(64, runs);
        for (int k = 0; k < runs; k++) {
            Check.pokeLow(x, 65 + 6 * k, 4, 100 + k);
            Check.pokeLow(x, 69 + 6 * k, 2, 1);
        }
        Check.pokeLow(x, 65 + 6 * runs, 4, size);
        Check.pokeLow(x, 69 + 6 * runs, 4, x.sum(100 * 512, size));
    }

    private static void loaderBytes() {
        BootMaker x = Check.usual();
        Check.pokeText(x, 100 * 512, "LOAD");
        Check.pokeLow(x, 100 * 512 + 4, 4, 40);
        for (int i = 8; i < 10000; i++) {
            x.poke(100 * 512 + i, i * 5);
        }
        int[][] sizes = {{20, 9000, 0}, {20, 9001, 9}, {18, 9000, 0}, {17, 9000, 9}, {17, 8704, 0}, {17, 8705, 9}, {1, 8, 0},
            {1, 7, 9}, {1, 512, 0}, {1, 513, 9}, {20, 8, 0}, {21, 9000, 9}};
        for (int[] one : sizes) {
            tellRuns(x, one[0], one[1]);
            due(one[0] + " runs, size " + one[1], x, 1, one[2]);
        }
        tellRuns(x, 20, 9000);
        spoiled(x, 1, 69 + 6 * 19, 2, 0, 9);
        spoiled(x, 1, 65 + 6 * 19, 4, 160, 9);
        long[][] starts = {{40, 0}, {159, 5}, {160, 9}, {0, 5}, {0x80000028L, 9}, {0xFFFFFFFFL, 9}, {39, 5}, {40, 0}};
        for (long[] start : starts) {
            Check.pokeLow(x, 100 * 512 + 4, 4, start[0]);
            tellRuns(x, 1, 300);
            due("B " + start[0], x, 1, (int) start[1]);
            Check.due("booted(1)", x.booted(1), start[1] == 9 ? BootMaker.NONE : start[0]);
        }
        for (int i = 0; i < 4; i++) {
            int before = x.poke(100 * 512 + i, 'x');
            tellRuns(x, 1, 300);
            due("no LOAD", x, 1, 9);
            x.poke(100 * 512 + i, before);
        }
    }

    private static void volume() {
        BootMaker x = Check.usual();
        int at = 40 * 512;
        for (int mode = 0; mode < 2; mode++) {
            spoiled(x, mode, at + 510, 1, 0, 5);
            spoiled(x, mode, at + 511, 1, 0, 5);
            spoiled(x, mode, at + 11, 2, 513, 5);
            spoiled(x, mode, at + 12, 1, 1, 5);
            spoiled(x, mode, at + 13, 1, 2, 5);
            spoiled(x, mode, at + 14, 2, 2, 5);
            spoiled(x, mode, at + 15, 1, 1, 5);
            spoiled(x, mode, at + 16, 1, 1, 5);
            spoiled(x, mode, at + 17, 2, 16, 5);
            spoiled(x, mode, at + 18, 1, 1, 5);
            spoiled(x, mode, at + 22, 2, 0, 5);
            for (int unread : new int[] {0, 1, 2, 3, 21, 24, 26, 28, 32, 36, 38, 39, 43, 54, 62, 509}) {
                spoiled(x, mode, at + unread, 1, 7, 0);
            }
        }
    }

    private static void volumeSizes() {
        BootMaker x = Check.usual();
        int at = 40 * 512;
        spoiled(x, 0, at + 19, 2, 120, 0);
        spoiled(x, 0, at + 19, 2, 121, 5);
        spoiled(x, 0, at + 19, 2, 65535, 5);
        spoiled(x, 0, at + 19, 2, 5, 5);
        spoiled(x, 0, at + 19, 2, 6, 7);
        spoiled(x, 0, at + 19, 2, 0, 5);
        spoiled(x, 0, at + 22, 2, 18, 6);
        spoiled(x, 0, at + 22, 2, 19, 5);
        spoiled(x, 0, at + 22, 2, 65535, 5);
        spoiled(x, 0, at + 22, 2, 257, 5);
        BootMaker y = new BootMaker(600);
        y.partition(0, 344);
        y.file(Check.KERNEL, 600, 0, false);
        y.write();
        due("341 entries in one sector", y, 0, 0);
        Check.pokeLow(y, at + 19, 2, 345);
        due("342 entries in one sector", y, 0, 5);
    }

    private static void kernelEntry() {
        BootMaker x = Check.usual();
        int kernel = Check.DIRECTORY + 64;
        for (int i = 0; i < 11; i++) {
            spoiled(x, 0, kernel + i, 1, 'x', 6);
            spoiled(x, 1, kernel + i, 1, 0, 6);
        }
        spoiled(x, 0, kernel + 11, 1, 33, 6);
        spoiled(x, 0, kernel + 11, 1, 0, 6);
        spoiled(x, 0, Check.DIRECTORY, 1, 0, 6);
        spoiled(x, 0, Check.DIRECTORY + 32, 1, 0, 6);
        spoiled(x, 0, Check.DIRECTORY, 1, 229, 0);
        spoiled(x, 0, Check.DIRECTORY + 1, 1, 0, 0);
        for (int i = 12; i < 26; i++) {
            spoiled(x, 0, kernel + i, 1, 99, 0);
        }
        // Another KERNEL before it, of another attribute: it doesn't count; then of the right one: it does.
        for (int i = 0; i < 32; i++) {
            x.poke(Check.DIRECTORY + 32 + i, x.byteAt(kernel + i));
        }
        x.poke(Check.DIRECTORY + 32 + 11, 16);
        x.poke(Check.DIRECTORY + 32 + 28, 0);
        x.poke(Check.DIRECTORY + 32 + 29, 0);
        due("a KERNEL that is no file", x, 0, 0);
        x.poke(Check.DIRECTORY + 32 + 11, 32);
        due("the first KERNEL", x, 0, 8);
        lastEntry();
    }

    private static void lastEntry() {
        BootMaker x = Check.usual();
        for (int i = 0; i < 32; i++) {
            x.poke(Check.DIRECTORY + 31 * 32 + i, x.byteAt(Check.DIRECTORY + 64 + i));
        }
        for (int k = 2; k < 31; k++) {
            x.poke(Check.DIRECTORY + k * 32, 'X');
        }
        due("the last entry of the directory", x, 0, 0);
        x.poke(Check.DIRECTORY + 31 * 32, 'X');
        Check.pokeText(x, Check.DIRECTORY + 32 * 32, "KERNEL     ");
        x.poke(Check.DIRECTORY + 32 * 32 + 11, 32);
        due("one behind the directory", x, 0, 6);
    }

    private static void setEntry(BootMaker x, int entry, int value) {
        int at = Check.TABLE + entry * 3 / 2;
        int pair = (int) Check.low(x, at, 2);
        Check.pokeLow(x, at, 2, entry % 2 == 0 ? pair & 0xF000 | value : pair & 15 | value << 4);
    }

    private static void chain() {
        BootMaker x = Check.usual();
        int first = Check.DIRECTORY + 64 + 26, size = Check.DIRECTORY + 64 + 28;
        spoiled(x, 0, first, 2, 0, 7);
        spoiled(x, 0, first, 2, 1, 7);
        spoiled(x, 0, first, 2, 8, 7);
        spoiled(x, 0, first, 2, 37, 7);
        spoiled(x, 0, first, 2, 0x107, 7);
        spoiled(x, 0, first, 2, 0x1007, 7);
        spoiled(x, 0, first, 2, 65535, 7);
        spoiled(x, 0, size, 4, 1536, 0);
        spoiled(x, 0, size, 4, 1537, 7);
        spoiled(x, 0, size, 4, 1025, 0);
        spoiled(x, 0, size, 4, 1024, 7);
        spoiled(x, 0, size, 4, 35 * 512 + 1, 7);
        spoiled(x, 0, size, 4, 0xFFFFFFFFL, 7);
        spoiled(x, 0, size, 4, 0x80000000L, 7);
        spoiled(x, 0, size, 4, 0, 8);
        int[][] ends = {{4095, 0}, {4088, 0}, {4087, 7}, {4080, 7}, {0, 7}, {10, 7}, {9, 7}};
        for (int[] end : ends) {
            setEntry(x, 9, end[0]);
            due("the last entry is " + end[0], x, 0, end[1]);
        }
        setEntry(x, 9, 4095);
        int[][] middles = {{9, 0}, {8, 7}, {7, 7}, {4095, 7}, {0, 7}, {1, 7}, {37, 7}, {36, 7}, {10, 7}};
        for (int[] middle : middles) {
            setEntry(x, 8, middle[0]);
            due("the middle entry is " + middle[0], x, 1, middle[1]);
        }
        setEntry(x, 36, 4095);
        setEntry(x, 8, 36);
        due("the last cluster of all", x, 0, 0);
        setEntry(x, 37, 4095);
        setEntry(x, 8, 37);
        due("one behind the last cluster", x, 0, 7);
        setEntry(x, 8, 9);
        x.poke(42 * 512 + 10, 0);
        x.poke(42 * 512 + 12, 0);
        due("the second table doesn't count", x, 0, 0);
        setEntry(x, 7, 2);
        setEntry(x, 2, 3);
        setEntry(x, 3, 4088);
        due("a chain through lower clusters", x, 0, 0);
        Check.due("its second cluster", Check.memory(x, 4096 + 512), 'L');
    }

    private static void kernel() {
        BootMaker x = Check.usual();
        int size = Check.DIRECTORY + 64 + 28, head = Check.cluster(7);
        setEntry(x, 7, 4095);
        spoiled(x, 0, size, 4, 8, 0);
        spoiled(x, 0, size, 4, 7, 8);
        spoiled(x, 0, size, 4, 1, 8);
        spoiled(x, 0, size, 4, 0, 8);
        setEntry(x, 7, 8);
        for (int i = 0; i < 4; i++) {
            spoiled(x, 0, head + i, 1, 'x', 8);
        }
        spoiled(x, 0, head + 4, 4, 65536 - 1500, 0);
        spoiled(x, 0, head + 4, 4, 65536 - 1499, 8);
        spoiled(x, 0, head + 4, 4, 65536, 8);
        spoiled(x, 0, head + 4, 4, 0x80000000L, 8);
        spoiled(x, 0, head + 4, 4, 0xFFFFFFFFL, 8);
        spoiled(x, 0, head + 4, 4, 0, 0);
        due("all put back", x, 1, 0);
        BootMaker y = new BootMaker(100);
        y.partition(0, 20);
        y.file(Check.KERNEL, 0, 0, false);
        y.write();
        due("an empty kernel", y, 0, 8);
        Check.pokeLow(y, Check.DIRECTORY + 26, 2, 9);
        due("an empty kernel with a cluster", y, 0, 8);
    }

    private static void bigKernel() {
        // All of 129 clusters in a chain: 65536 bytes fill the memory, one more leaves it.
        BootMaker x = new BootMaker(300);
        x.partition(0, 134);
        x.file(Check.KERNEL, 9000, 0, false);
        x.write();
        for (int e = 2; e < 129; e++) {
            setEntry(x, e, e + 1);
        }
        setEntry(x, 129, 4095);
        Check.pokeLow(x, Check.DIRECTORY + 28, 4, 65536);
        x.poke(Check.cluster(129) + 511, 77);
        due("a kernel as large as the memory", x, 0, 0);
        Check.due("its last byte", Check.memory(x, 65535), 77);
        Check.pokeLow(x, Check.cluster(2) + 4, 4, 1);
        due("one higher", x, 0, 8);
        Check.pokeLow(x, Check.cluster(2) + 4, 4, 0);
        setEntry(x, 129, 130);
        setEntry(x, 130, 4095);
        Check.pokeLow(x, Check.DIRECTORY + 28, 4, 65537);
        due("one longer", x, 0, 8);
    }

    private static void orderOfReasons() {
        BootMaker x = Check.usual();
        x.poke(Check.cluster(7), 0);
        due("no KRNL", x, 0, 8);
        setEntry(x, 8, 0);
        due("chain too", x, 0, 7);
        x.poke(Check.DIRECTORY + 64, 'X');
        due("entry too", x, 0, 6);
        x.poke(40 * 512 + 13, 0);
        due("volume too", x, 0, 5);
        due("volume too", x, 1, 5);
        x.poke(64, 0);
        due("runs too", x, 1, 9);
        x.poke(1024, 0);
        Check.seal(x, 1);
        due("boot entry too", x, 0, 4);
        x.poke(512, 0);
        x.poke(159 * 512, 0);
        due("headers too", x, 0, 3);
        x.poke(450, 0);
        due("protective entry too", x, 0, 2);
        x.poke(510, 0);
        due("mark too", x, 0, 1);
        due("mark too", x, 1, 1);
    }
}
