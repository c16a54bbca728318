/** Promise 10, mode 1: reason 9, each of the things that it names, at the edge on both sides. */
public final class BootLoaderTest {
    /** Where the tests that tell runs of their own put the loader: sectors in which the usual disk has nothing. */
    private static final int LOADER = 100 * 512;

    public static void main(String[] args) {
        numberOfRuns();
        noSectors();
        leavesTheDisk();
        lessBytesThanTheSize();
        sumOfTheFirstBytes();
        runsInTheirOrder();
        sizes();
        beginsWithLoad();
        firstSectorOfTheVolume();
        writtenLoaders();
        Check.finish();
    }

    private static void due(String what, Maker x, int want) {
        BootTest.due(what, x, 1, want);
        Check.due(what + ": booted(0)", x.booted(0), 0);
        if (want == 9) {
            Check.due(what + ": booted(1)", x.booted(1), BootMaker.NONE);
        }
    }

    /** A usual disk with another loader in sectors 100 .. 119, which differ. */
    private static Maker disk() {
        Maker x = Check.usual();
        for (int sector = 0; sector < 20; sector++) {
            x.poke(LOADER + sector * 512, sector + 1);
            x.poke(LOADER + sector * 512 + 511, 255 - sector);
        }
        Check.pokeText(x, LOADER, "LOAD");
        Check.pokeLow(x, LOADER + 4, 4, 40);
        return x;
    }

    /** Runs as given, two numbers each, the size, and the sum of so many bytes from sector 100 on. */
    private static void tell(Maker x, int size, int... runs) {
        int at = 65;
        x.poke(64, runs.length / 2);
        for (int i = 0; i < runs.length; i += 2) {
            Check.pokeLow(x, at, 4, runs[i]);
            Check.pokeLow(x, at + 4, 2, runs[i + 1]);
            at += 6;
        }
        Check.pokeLow(x, at, 4, size);
        Check.pokeLow(x, at + 4, 4, x.sum(LOADER, size));
    }

    /** So many runs of one sector each, from sector 100 on. */
    private static int[] single(int count) {
        int[] runs = new int[2 * count];
        for (int i = 0; i < count; i++) {
            runs[2 * i] = 100 + i;
            runs[2 * i + 1] = 1;
        }
        return runs;
    }

    private static void dueRuns(String what, int want, int size, int... runs) {
        Maker x = disk();
        tell(x, size, runs);
        due(what + ", size " + size, x, want);
    }

    /** "their number is 0 or above 20" */
    private static void numberOfRuns() {
        for (int count : new int[] {1, 2, 17, 18, 19, 20}) {
            dueRuns(count + " runs", 0, Math.min(count * 512, 9000), single(count));
            dueRuns(count + " runs", 0, 8, single(count));
        }
        for (int count : new int[] {21, 22, 30}) {
            dueRuns(count + " runs", 9, 9000, single(count));
            dueRuns(count + " runs", 9, 8, single(count));
        }
        dueRuns("no runs", 9, 8);
        for (int count : new int[] {0, 21, 84, 127, 128, 129, 148, 255}) {
            BootTest.spoiled(1, 64, 1, count, 9);
            BootTest.spoiled(0, 64, 1, count, 0);
        }
        BootTest.spoiled(1, 64, 1, 3, 0);
        BootTest.spoiled(1, 64, 1, 2, 9);
        BootTest.spoiled(1, 64, 1, 4, 9);
        Maker zero = new Maker(160);
        zero.write();
        // 255 runs would be read beyond sector 0, 84 beyond its end.
        zero.poke(64, 255);
        due("255 empty runs", zero, 9);
    }

    /** "one has no sectors": whichever it is, even where the bytes are enough without it */
    private static void noSectors() {
        dueRuns("the only run", 9, 8, 100, 0);
        dueRuns("the first run", 9, 8, 100, 0, 100, 1);
        dueRuns("the second run", 9, 8, 100, 1, 101, 0);
        dueRuns("the middle run", 9, 1024, 100, 1, 101, 0, 101, 1);
        for (int k : new int[] {0, 1, 10, 18, 19}) {
            int[] runs = single(20);
            runs[2 * k + 1] = 0;
            dueRuns("run " + k + " of 20", 9, 8, runs);
        }
        dueRuns("one of 256", 9, 8, 100, 256);
        dueRuns("all have some", 0, 1024, 100, 1, 101, 1);
    }

    /** "or leaves the disk": its last sector is N - 1 at the most */
    private static void leavesTheDisk() {
        dueRuns("up to the end", 0, 8, 100, 60);
        dueRuns("one more", 9, 8, 100, 61);
        dueRuns("many more", 9, 8, 100, 65535);
        dueRuns("the last sector", 0, 8, 100, 1, 159, 1);
        dueRuns("the last two", 0, 8, 100, 1, 158, 2);
        dueRuns("the last and one more", 9, 8, 100, 1, 159, 2);
        dueRuns("behind the last", 9, 8, 100, 1, 160, 1);
        dueRuns("the whole disk", 0, 8, 100, 1, 0, 160);
        dueRuns("the whole disk and one more", 9, 8, 100, 1, 0, 161);
        dueRuns("the first sector", 0, 8, 100, 1, 0, 1);
        int[] firsts = {161, 256 + 100, 1 << 16 | 100, 1 << 24 | 100, Check.MOST, Check.LEAST, Check.LEAST + 100, -1, -2, -60,
            1 << 23};
        for (int first : firsts) {
            dueRuns("the only run at " + first, 9, 8, first, 1);
            dueRuns("the second run at " + first, 9, 8, 100, 1, first, 1);
            dueRuns("the second run, two sectors at " + first, 9, 8, 100, 1, first, 2);
            dueRuns("the second run, very long at " + first, 9, 8, 100, 1, first, 65535);
        }
        for (int k : new int[] {0, 1, 10, 18, 19}) {
            int[] runs = single(20);
            runs[2 * k] = 160;
            dueRuns("run " + k + " of 20", 9, 8, runs);
        }
        Maker y = new Maker(600);
        y.partition(0, 20);
        y.file(Check.LOADER, 8, 0, false);
        y.file(Check.KERNEL, 8, 0, false);
        y.write();
        Check.pokeLow(y, 69, 2, 600 - 45);
        due("up to the end of 600", y, 0);
        Check.pokeLow(y, 69, 2, 600 - 45 + 1);
        due("one more of 600", y, 9);
    }

    /** "or they have less bytes than the size" */
    private static void lessBytesThanTheSize() {
        for (int count : new int[] {1, 2, 3, 17}) {
            dueRuns(count + " sectors in one run", 0, count * 512, 100, count);
            dueRuns(count + " sectors in one run", 0, count * 512 - 1, 100, count);
            dueRuns(count + " sectors in one run", 9, count * 512 + 1, 100, count);
            dueRuns(count + " runs", 0, count * 512, single(count));
            dueRuns(count + " runs", 9, count * 512 + 1, single(count));
        }
        dueRuns("18 sectors", 0, 9000, 100, 18);
        dueRuns("17 sectors", 9, 9000, 100, 17);
        dueRuns("more sectors than needed", 0, 9000, 100, 27);
        dueRuns("one and two", 0, 1536, 100, 1, 101, 2);
        dueRuns("one and two", 9, 1537, 100, 1, 101, 2);
    }

    /** "or the sum isn't that of the first so many bytes of theirs": all of them and no more */
    private static void sumOfTheFirstBytes() {
        for (int i = 87; i < 91; i++) {
            for (int bit : new int[] {1, 128}) {
                Maker x = Check.usual();
                x.poke(i, x.byteAt(i) ^ bit);
                due("sum changed at " + i, x, 9);
            }
        }
        for (int size : new int[] {8, 9, 100, 511, 512, 513, 1024, 8999, 9000}) {
            for (int i : new int[] {size / 2, size - 1, size}) {
                Maker x = disk();
                tell(x, size, 100, 20);
                x.poke(LOADER + i, x.byteAt(LOADER + i) ^ 64);
                due("size " + size + ", byte " + i + " changed", x, i < size ? 9 : 0);
            }
        }
        Maker y = disk();
        tell(y, 1000, 100, 2);
        Check.pokeLow(y, 71, 4, 999);
        due("the sum of one byte more", y, 9);
        Check.pokeLow(y, 71, 4, 1001);
        due("the sum of one byte less", y, 9);
        Check.pokeLow(y, 71, 4, 1000);
        due("the sum of all", y, 0);
    }

    /** The first so many bytes are those of the runs in their order, whole sectors each. */
    private static void runsInTheirOrder() {
        dueRuns("as they lie", 0, 2048, 100, 1, 101, 2, 103, 1);
        dueRuns("exchanged", 9, 2048, 100, 1, 103, 1, 101, 2);
        dueRuns("one twice", 9, 1024, 100, 1, 100, 1);
        Maker x = disk();
        // Sector 110 gets what sector 101 has, and the other way round: the runs must go the other way round, too.
        x.poke(110 * 512, 2);
        x.poke(110 * 512 + 511, 254);
        tell(x, 1536, 100, 1, 110, 1, 102, 1);
        due("through another sector", x, 0);
        Maker y = disk();
        tell(y, 1536, 100, 1, 101, 1, 102, 1);
        Check.pokeLow(y, 71, 4, 90);
        due("through a sector without anything", y, 9);
    }

    /** "or the size is not 8 .. 9000" */
    private static void sizes() {
        for (int size : new int[] {8, 9, 8999, 9000}) {
            dueRuns("20 runs", 0, size, single(20));
        }
        for (int size : new int[] {0, 1, 4, 7, 9001, 9002, 9216, 10240}) {
            dueRuns("20 runs", 9, size, single(20));
        }
        dueRuns("one long run", 0, 9000, 100, 60);
        dueRuns("one long run", 9, 9001, 100, 60);
        for (long size : new long[] {1L << 31 | 1200, 0xFFFFFFFFL, 1L << 31, 1L << 16 | 1200, 1L << 24 | 1200}) {
            BootTest.spoiled(1, 83, 4, size, 9);
        }
        BootTest.spoiled(1, 83, 4, 1200, 0);
    }

    /** "or those do not begin with LOAD": each of the four, the sum being right */
    private static void beginsWithLoad() {
        for (int i = 0; i < 4; i++) {
            for (int bit : new int[] {1, 32, 128}) {
                Maker x = disk();
                x.poke(LOADER + i, x.byteAt(LOADER + i) ^ bit);
                tell(x, 300, 100, 1);
                due("byte " + i + " changed by " + bit, x, 9);
            }
        }
        Maker y = disk();
        Check.pokeText(y, LOADER, "KRNL");
        tell(y, 300, 100, 1);
        due("a kernel", y, 9);
    }

    /** "B is the LOW4 behind that: not in the disk" */
    private static void firstSectorOfTheVolume() {
        long[][] starts = {{40, 0}, {0, 5}, {1, 5}, {39, 5}, {41, 5}, {158, 5}, {159, 5}, {160, 9}, {161, 9}, {256 + 40, 9},
            {1 << 16 | 40, 9}, {1 << 24 | 40, 9}, {1L << 31, 9}, {1L << 31 | 40, 9}, {0xFFFFFFFFL, 9}, {0x7FFFFFFFL, 9},
            {1 << 23 | 40, 9}};
        for (long[] start : starts) {
            Maker x = disk();
            Check.pokeLow(x, LOADER + 4, 4, start[0]);
            tell(x, 300, 100, 1);
            due("B " + start[0], x, (int) start[1]);
            Check.due("booted(1)", x.booted(1), start[1] == 9 ? BootMaker.NONE : start[0]);
        }
        Maker y = new Maker(600);
        y.partition(0, 20);
        y.file(Check.LOADER, 8, 0, false);
        y.write();
        for (int start : new int[] {599, 600}) {
            Check.pokeLow(y, 45 * 512 + 4, 4, start);
            Check.pokeLow(y, 75, 4, y.sum(45 * 512, 8));
            due("B " + start + " of 600", y, start == 599 ? 5 : 9);
        }
    }

    /** What write puts into sector 0 is what boot takes: loaders of every length of clusters, scattered or not */
    private static void writtenLoaders() {
        for (int size : new int[] {1, 7, 8, 9, 511, 512, 513, 1024, 4096, 8704, 8705, 9000}) {
            for (int way = 0; way < 2; way++) {
                Maker x = new Maker(200);
                x.partition(1, 9);
                x.partition(0, 60);
                x.file('A', 600, 1, true);
                x.file(Check.LOADER, size, 77, way == 1);
                x.file(Check.KERNEL, 900, 5, true);
                Check.due("write()", x.write(), 0);
                due("a loader of " + size, x, size < 8 ? 9 : 0);
                Check.due("booted(1)", x.booted(1), size < 8 ? BootMaker.NONE : 56);
            }
        }
    }
}
