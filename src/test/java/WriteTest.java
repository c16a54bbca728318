/** Promise 6: write: every field of sector 0, of the table, its copy and the file system. What it refuses: RefusedWriteTest. */
public final class WriteTest {
    private static final int[] BOOT = {40, 115, 42, 193, 31, 248, 210, 17, 186, 75, 0, 160, 201, 62, 201, 59};
    private static final int[] DATA = {162, 160, 208, 235, 229, 185, 51, 68, 135, 192, 104, 182, 183, 38, 153, 199};

    public static void main(String[] args) {
        emptyPlan();
        sectorZero();
        everySizeOfDisk();
        headers();
        entries();
        volumeSector();
        clusterTables();
        directory();
        contents();
        contentsOfTheLongest();
        otherBootPartitions();
        noFiles();
        writtenAnew();
        planGrows();
        Check.finish();
    }

    private static void write(Maker x) {
        Check.due("write()", x.write(), 0);
    }

    /** "(0 where nothing is said)" of a disk without a plan, each byte of it */
    private static void emptyPlan() {
        Maker x = new Maker(100);
        write(x);
        Check.dueBytes("sector 0", x, 0, 235, 62);
        Check.dueEmpty("sector 0", x, 2, 446);
        Check.dueBytes("sector 0", x, 446, 0, 0, 2, 0, 238, 255, 255, 255, 1, 0, 0, 0, 99, 0, 0, 0);
        Check.dueEmpty("sector 0", x, 462, 510);
        Check.dueBytes("sector 0", x, 510, 85, 170);
        Check.dueText("header", x, 512, "EFI PART");
        Check.dueEmpty("between the headers", x, 512 + 92, 99 * 512);
        Check.dueText("copy", x, 99 * 512, "EFI PART");
        Check.dueEmpty("behind the copy", x, 99 * 512 + 92, 100 * 512);
    }

    /** "64: the number of RUNS (a byte), for each LOW4 its first sector, LOW2 how many; then LOW4 the file's size, LOW4 the sum" */
    private static void sectorZero() {
        Maker x = Check.usual();
        Check.dueBytes("begin", x, 0, 235, 62);
        Check.dueEmpty("before the runs", x, 2, 64);
        Check.dueBytes("runs", x, 64, 3, 45, 0, 0, 0, 1, 0, 47, 0, 0, 0, 1, 0, 49, 0, 0, 0, 1, 0);
        Check.dueLow("loader's size", x, 83, 4, 1200);
        byte[] loader = new byte[1200];
        for (int i = 0; i < 1200; i++) {
            loader[i] = (byte) x.byteAt(Check.cluster(2 + i / 512 * 2) + i % 512);
        }
        Check.dueLow("loader's sum", x, 87, 4, Check.crc(loader) & 0xFFFFFFFFL);
        Check.dueEmpty("behind the runs", x, 91, 446);
        Check.dueBytes("protective entry", x, 446, 0, 0, 2, 0, 238, 255, 255, 255, 1, 0, 0, 0, 159, 0, 0, 0);
        Check.dueEmpty("behind it", x, 462, 510);
        Check.dueBytes("mark", x, 510, 85, 170);
    }

    /** All that depends on N, at both ends of what N may be and where N - 1 and N - 34 have a second byte. */
    private static void everySizeOfDisk() {
        for (int n : new int[] {100, 101, 200, 256, 257, 258, 289, 290, 291, 511, 512, 513, 599, 600}) {
            Maker x = new Maker(n);
            Model model = new Model(n);
            x.partition(0, 27);
            model.partition(0, 27);
            x.file(Check.LOADER, 700, 1, false);
            model.file(Check.LOADER, 700, 1, false);
            Check.due("write()", x.write(), model.write());
            Check.dueDisk("N " + n, x, model);
            Check.dueLow("N - 1", x, 458, 4, n - 1);
            Check.dueLow("the other header", x, 512 + 32, 8, n - 1);
            Check.dueLow("N - 34", x, 512 + 48, 8, n - 34);
            Check.dueLow("N - 1", x, (n - 1) * 512 + 24, 8, n - 1);
            Check.dueLow("N - 33", x, (n - 1) * 512 + 72, 8, n - 33);
            Check.dueBytes("the copy's first entry", x, (n - 33) * 512, BOOT);
        }
    }

    /** "THE TABLE: a HEADER in sector 1", and in "The COPY: ... header in sector N - 1" */
    private static void headers() {
        int[][] headers = {{1, 159, 2}, {159, 1, 127}};
        for (int[] one : headers) {
            Maker x = Check.usual();
            int at = one[0] * 512;
            String what = "header in " + one[0];
            Check.dueBytes(what, x, at, 69, 70, 73, 32, 80, 65, 82, 84, 0, 0, 1, 0, 92, 0, 0, 0);
            Check.dueLow(what, x, at + 20, 4, 0);
            Check.dueLow(what, x, at + 24, 8, one[0]);
            Check.dueLow(what, x, at + 32, 8, one[1]);
            Check.dueLow(what, x, at + 40, 8, 34);
            Check.dueLow(what, x, at + 48, 8, 126);
            // 17 * 15 + 1 is 256: of that a byte holds 0.
            Check.dueBytes(what, x, at + 56, 1, 18, 35, 52, 69, 86, 103, 120, 137, 154, 171, 188, 205, 222, 239, 0);
            Check.dueLow(what, x, at + 72, 8, one[2]);
            Check.dueLow(what, x, at + 80, 4, 128);
            Check.dueLow(what, x, at + 84, 4, 128);
            Check.dueLow(what, x, at + 88, 4, x.sum(one[2] * 512, 16384) & 0xFFFFFFFFL);
            Check.dueEmpty(what, x, at + 92, at + 512);
            long sum = Check.low(x, at + 16, 4);
            Check.pokeLow(x, at + 16, 4, 0);
            Check.due(what + ": its sum", sum, x.sum(at, 92) & 0xFFFFFFFFL);
        }
    }

    /** "Entry k for partition k", none, one and four of them */
    private static void entries() {
        int[][] spans = {{40, 47}, {48, 347}, {352, 359}, {360, 368}};
        String[] names = {"data0", "boot1", "boot2", "data3"};
        for (int parts = 0; parts <= 4; parts++) {
            Maker x = new Maker(600);
            for (int k = 0; k < parts; k++) {
                x.partition(names[k].startsWith("boot") ? 0 : 1, spans[k][1] - spans[k][0] + 1);
            }
            write(x);
            for (int table : new int[] {2, 567}) {
                for (int k = 0; k < parts; k++) {
                    entry(x, table * 512 + k * 128, k, spans[k], names[k]);
                }
                Check.dueEmpty("no more entries", x, table * 512 + parts * 128, table * 512 + 16384);
            }
        }
        Maker y = new Maker(600);
        for (int k = 0; k < 4; k++) {
            y.partition(k % 2, 8);
        }
        write(y);
        Check.dueText("boot0", y, 1024 + 56, "b\0o\0o\0t\0000\0\0");
        Check.dueText("data1", y, 1024 + 128 + 56, "d\0a\0t\0a\0001\0\0");
    }

    private static void entry(Maker x, int at, int k, int[] span, String name) {
        String what = "entry " + k + " at " + at;
        Check.dueBytes(what, x, at, name.startsWith("boot") ? BOOT : DATA);
        for (int i = 0; i < 16; i++) {
            Check.due(what + ": own byte " + i, x.byteAt(at + 16 + i), 32 * (k + 1) + i);
        }
        Check.dueLow(what, x, at + 32, 8, span[0]);
        Check.dueLow(what, x, at + 40, 8, span[1]);
        Check.dueLow(what, x, at + 48, 8, 0);
        for (int i = 0; i < 36; i++) {
            Check.dueLow(what, x, at + 56 + 2 * i, 2, i < 5 ? name.charAt(i) : 0);
        }
    }

    /** "Its first sector", with B and P of two bytes */
    private static void volumeSector() {
        Maker x = new Maker(600);
        x.partition(1, 228);
        x.partition(0, 290);
        write(x);
        int at = 272 * 512;
        Check.dueBytes("volume", x, at, 235, 60, 144, 'M', 'A', 'K', 'E', 'R', ' ', ' ', ' ', 0, 2, 1, 1, 0, 2, 32, 0,
            34, 1, 248, 1, 0, 32, 0, 2, 0, 16, 1, 0, 0, 0, 0, 0, 0, 128, 0, 41, 16, 1, 0, 0,
            'B', 'O', 'O', 'T', ' ', ' ', ' ', ' ', ' ', ' ', ' ', 'F', 'A', 'T', '1', '2', ' ', ' ', ' ', 0);
        Check.dueEmpty("volume", x, at + 62, at + 510);
        Check.dueBytes("volume's mark", x, at + 510, 85, 170);
    }

    /** "Entry 0 is 4088, 1 is 4095; of a cluster of a file the next one's number, 4095 for the last; others 0", in two tables */
    private static void clusterTables() {
        Maker x = Check.usual();
        int[] entries = {4088, 4095, 4, 5, 6, 4095, 4095, 8, 9, 4095, 0, 0};
        for (int table : new int[] {41, 42}) {
            for (int e = 0; e < entries.length; e++) {
                Check.due("table " + table + " entry " + e, Check.entry(x, table, e), entries[e]);
            }
            Check.dueBytes("packed", x, table * 512, 248, 255, 255, 4, 80, 0, 6, 240, 255, 255, 143, 0, 9, 240, 255, 0);
            Check.dueEmpty("table " + table, x, table * 512 + 15, table * 512 + 512);
        }
    }

    /** "Directory: 32 bytes for each file"; "26 LOW2 its first cluster (0 for size 0)" */
    private static void directory() {
        Maker x = Check.planned();
        x.file(Check.name("EMPTY_08"), 0, 0, true);
        x.file(Check.name("E"), 0, 0, false);
        x.file(Check.name("F"), 1, 0, false);
        write(x);
        String[] names = {"LOADER     ", "DATA       ", "KERNEL     ", "EMPTY_08   ", "E          ", "F          "};
        int[][] want = {{2, 1200}, {3, 700}, {7, 1500}, {0, 0}, {0, 0}, {10, 1}};
        for (int k = 0; k < 6; k++) {
            int at = Check.DIRECTORY + 32 * k;
            Check.dueText("directory " + k, x, at, names[k]);
            Check.dueBytes("directory " + k, x, at + 11, 32, 0, 0, 0, 0, 0, 0, 0, 0, 0, 0, 0, 0, 33, 0);
            Check.dueLow("first cluster of " + k, x, at + 26, 2, want[k][0]);
            Check.dueLow("size of " + k, x, at + 28, 4, want[k][1]);
        }
        Check.dueEmpty("directory", x, Check.DIRECTORY + 32 * 6, Check.DIRECTORY + 1024);
        noCluster(0);
        noCluster(1);
    }

    /** A file of size 0 has no cluster even where it is the first and the only one. */
    private static void noCluster(int size) {
        Maker x = new Maker(100);
        x.partition(0, 8);
        x.file('A', size, 7, true);
        write(x);
        Check.dueLow("first cluster", x, Check.DIRECTORY + 26, 2, size == 0 ? 0 : 2);
        Check.due("its entry", Check.entry(x, 41, 2), size == 0 ? 0 : 4095);
        Check.due("its byte", x.byteAt(Check.cluster(2)), size == 0 ? 0 : 7);
        Check.dueEmpty("behind it", x, Check.cluster(2) + size, 48 * 512);
    }

    /** "byte i is (seed + 7 * i + i / 200) modulo 256", "others 0" behind the last of them */
    private static void contents() {
        Maker x = Check.usual();
        for (int i = 0; i < 1024; i++) {
            int want = i < 700 ? (9 + 7 * i + i / 200) % 256 : 0;
            Check.due("DATA byte " + i, x.byteAt(Check.cluster(3 + i / 512 * 2) + i % 512), want);
        }
        Check.dueBytes("LOADER's head", x, Check.cluster(2), 'L', 'O', 'A', 'D', 40, 0, 0, 0, 59, 66);
        Check.dueBytes("KERNEL's head", x, Check.cluster(7), 'K', 'R', 'N', 'L', 0, 16, 0, 0, 96, 103);
        Check.dueBytes("KERNEL's end", x, Check.cluster(9) + 1499 - 1024, 44, 0);
        Check.dueEmpty("free clusters", x, Check.cluster(10), 80 * 512);
    }

    private static void contentsOfTheLongest() {
        Maker x = new Maker(100);
        x.partition(0, 23);
        x.file('A', 9000, 255, false);
        write(x);
        for (int i = 0; i < 18 * 512; i++) {
            int want = i < 9000 ? (255 + 7 * i + i / 200) % 256 : 0;
            Check.due("byte " + i, x.byteAt(Check.cluster(2) + i), want);
        }
    }

    /** "THE FILE SYSTEM in the first boot partition"; "other boot partitions stay empty" */
    private static void otherBootPartitions() {
        Maker x = new Maker(200);
        x.partition(1, 8);
        x.partition(0, 16);
        x.partition(0, 16);
        x.partition(0, 8);
        x.file('A', 10, 5, false);
        write(x);
        Check.dueEmpty("data", x, 40 * 512, 48 * 512);
        Check.dueBytes("the first", x, 48 * 512, 235, 60, 144);
        Check.dueText("its directory", x, 51 * 512, "A          ");
        Check.dueEmpty("the second and the third", x, 64 * 512, 88 * 512);
    }

    /** Without files: a boot partition has its file system, and an empty directory. */
    private static void noFiles() {
        for (int sectors : new int[] {8, 9, 27}) {
            Maker x = new Maker(100);
            x.partition(0, sectors);
            write(x);
            Check.dueBytes("first sector", x, 40 * 512, 235, 60, 144);
            Check.dueBytes("first table", x, 41 * 512, 248, 255, 255);
            Check.dueEmpty("first table", x, 41 * 512 + 3, 42 * 512);
            Check.dueBytes("second table", x, 42 * 512, 248, 255, 255);
            Check.dueEmpty("all behind it", x, 42 * 512 + 3, 67 * 512);
            Check.due("no kernel there", x.boot(0), 6);
        }
    }

    /** "The disk is written": all of it, whatever it was before. */
    private static void writtenAnew() {
        Maker x = Check.usual();
        int first = x.sum(0, 160 * 512);
        for (int i = 3; i < 160 * 512; i += 251) {
            x.poke(i, x.byteAt(i) + 1);
        }
        Check.due("it has been changed", x.sum(0, 160 * 512) != first, true);
        write(x);
        Check.due("the same disk again", x.sum(0, 160 * 512), first);
        write(x);
        Check.due("and again", x.sum(0, 160 * 512), first);
    }

    /** Each writing puts the whole plan there, nothing of an earlier one stays. */
    private static void planGrows() {
        Maker x = new Maker(300);
        Model model = new Model(300);
        for (int step = 0; step < 14; step++) {
            if (step == 0 || step == 3 || step == 4 || step == 9) {
                int sort = step == 0 ? 1 : 0;
                Check.due("partition", x.partition(sort, 50), model.partition(sort, 50));
            } else {
                long name = step == 5 ? Check.LOADER : step == 6 ? Check.KERNEL : 'A' + step;
                int size = step * 97 % 13 * 100;
                Check.due("file", x.file(name, size, step, step % 2 == 0), model.file(name, size, step, step % 2 == 0));
            }
            x.address(step * 1000);
            model.address(step * 1000);
            Check.due("step " + step + ": write()", x.write(), model.write());
            Check.dueDisk("step " + step, x, model);
        }
    }
}
