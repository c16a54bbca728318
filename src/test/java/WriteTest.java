import java.util.Arrays;

/** Promise 6: write: every field of sector 0, of the table, its copy and the file system, and what is refused. */
public final class WriteTest {
    public static void main(String[] args) {
        emptyPlan();
        sectorZero();
        headers();
        entries();
        volumeSector();
        clusterTables();
        directory();
        contents();
        shortHeads();
        scatteredWraps();
        scatteredAroundOthers();
        tableSectors();
        highClusters();
        writtenAnew();
        otherBootPartitions();
        noBootPartition();
        tooManyClusters();
        runs();
        emptyLoader();
        Check.finish();
    }

    private static void emptyPlan() {
        BootMaker x = new BootMaker(100);
        Check.due("write()", x.write(), 0);
        Check.dueBytes("sector 0", x, 0, 235, 62, 0);
        Check.due("no runs", x.byteAt(64), 0);
        Check.dueBytes("protective entry", x, 446, 0, 0, 2, 0, 238, 255, 255, 255, 1, 0, 0, 0, 99, 0, 0, 0, 0);
        Check.dueBytes("mark", x, 509, 0, 85, 170);
        Check.dueText("header", x, 512, "EFI PART");
        Check.dueText("copy", x, 99 * 512, "EFI PART");
        for (int i = 2 * 512; i < 99 * 512; i++) {
            Check.due("byteAt(" + i + ")", x.byteAt(i), 0);
        }
        BootMaker y = new BootMaker(100);
        y.partition(0, 8);
        Check.due("a boot partition without files", y.write(), 0);
        Check.dueBytes("its first sector", y, 40 * 512, 235, 60, 144);
        Check.dueBytes("its first table", y, 41 * 512, 248, 255, 255, 0);
        Check.dueBytes("its directory", y, 43 * 512, 0, 0);
    }

    private static void sectorZero() {
        BootMaker x = Check.usual();
        Check.dueBytes("runs", x, 63, 0, 3, 45, 0, 0, 0, 1, 0, 47, 0, 0, 0, 1, 0, 49, 0, 0, 0, 1, 0);
        Check.dueLow("loader's size", x, 83, 4, 1200);
        byte[] loader = new byte[1200];
        for (int i = 0; i < 1200; i++) {
            loader[i] = (byte) x.byteAt(Check.cluster(2 + i / 512 * 2) + i % 512);
        }
        java.util.zip.CRC32 crc = new java.util.zip.CRC32();
        crc.update(loader);
        Check.dueLow("loader's sum", x, 87, 4, crc.getValue());
        for (int i = 91; i < 446; i++) {
            Check.due("byteAt(" + i + ")", x.byteAt(i), 0);
        }
        Check.dueBytes("protective entry", x, 446, 0, 0, 2, 0, 238, 255, 255, 255, 1, 0, 0, 0, 159, 0, 0, 0);
        BootMaker y = new BootMaker(600);
        y.write();
        Check.dueLow("N - 1 in four bytes", y, 458, 4, 599);
    }

    private static void headers() {
        BootMaker x = Check.usual();
        int[][] headers = {{1, 159, 2}, {159, 1, 127}};
        for (int[] one : headers) {
            int at = one[0] * 512;
            String what = "header in " + one[0];
            Check.dueBytes(what, x, at, 69, 70, 73, 32, 80, 65, 82, 84, 0, 0, 1, 0, 92, 0, 0, 0);
            Check.dueLow(what, x, at + 20, 4, 0);
            Check.dueLow(what, x, at + 24, 8, one[0]);
            Check.dueLow(what, x, at + 32, 8, one[1]);
            Check.dueLow(what, x, at + 40, 8, 34);
            Check.dueLow(what, x, at + 48, 8, 126);
            Check.dueBytes(what, x, at + 56, 1, 18, 35, 52, 69, 86, 103, 120, 137, 154, 171, 188, 205, 222, 239, 0);
            Check.dueLow(what, x, at + 72, 8, one[2]);
            Check.dueLow(what, x, at + 80, 4, 128);
            Check.dueLow(what, x, at + 84, 4, 128);
            Check.dueLow(what, x, at + 88, 4, x.sum(one[2] * 512, 16384) & 0xFFFFFFFFL);
            long sum = Check.low(x, at + 16, 4);
            Check.pokeLow(x, at + 16, 4, 0);
            Check.due(what + ": its sum", sum, x.sum(at, 92) & 0xFFFFFFFFL);
            for (int i = at + 92; i < at + 512; i++) {
                Check.due("byteAt(" + i + ")", x.byteAt(i), 0);
            }
        }
    }

    private static void entries() {
        BootMaker x = new BootMaker(600);
        x.partition(1, 8);
        x.partition(0, 300);
        x.partition(0, 8);
        x.partition(1, 9);
        Check.due("write()", x.write(), 0);
        int[][] spans = {{40, 47}, {48, 347}, {352, 359}, {360, 368}};
        String[] names = {"data0", "boot1", "boot2", "data3"};
        int[] boot = {40, 115, 42, 193, 31, 248, 210, 17, 186, 75, 0, 160, 201, 62, 201, 59};
        int[] data = {162, 160, 208, 235, 229, 185, 51, 68, 135, 192, 104, 182, 183, 38, 153, 199};
        for (int table : new int[] {2, 567}) {
            for (int k = 0; k < 4; k++) {
                int at = table * 512 + k * 128;
                String what = "entry " + k + " in " + table;
                Check.dueBytes(what, x, at, names[k].startsWith("boot") ? boot : data);
                for (int i = 0; i < 16; i++) {
                    Check.due(what + ": own byte " + i, x.byteAt(at + 16 + i), 32 * (k + 1) + i);
                }
                Check.dueLow(what, x, at + 32, 8, spans[k][0]);
                Check.dueLow(what, x, at + 40, 8, spans[k][1]);
                Check.dueLow(what, x, at + 48, 8, 0);
                for (int i = 0; i < 36; i++) {
                    Check.dueLow(what, x, at + 56 + 2 * i, 2, i < 5 ? names[k].charAt(i) : 0);
                }
            }
            for (int i = table * 512 + 512; i < table * 512 + 16384; i++) {
                Check.due("byteAt(" + i + ")", x.byteAt(i), 0);
            }
        }
    }

    private static void volumeSector() {
        BootMaker x = new BootMaker(600);
        x.partition(1, 228);
        x.partition(0, 290);
        Check.due("write()", x.write(), 0);
        int at = 272 * 512;
        Check.dueBytes("volume", x, at, 235, 60, 144, 'M', 'A', 'K', 'E', 'R', ' ', ' ', ' ', 0, 2, 1, 1, 0, 2, 32, 0,
            34, 1, 248, 1, 0, 32, 0, 2, 0, 16, 1, 0, 0, 0, 0, 0, 0, 128, 0, 41, 16, 1, 0, 0,
            'B', 'O', 'O', 'T', ' ', ' ', ' ', ' ', ' ', ' ', ' ', 'F', 'A', 'T', '1', '2', ' ', ' ', ' ', 0);
        for (int i = 62; i < 510; i++) {
            Check.due("volume: byte " + i, x.byteAt(at + i), 0);
        }
        Check.dueBytes("volume's mark", x, at + 510, 85, 170);
    }

    private static void clusterTables() {
        BootMaker x = Check.usual();
        int[] entries = {4088, 4095, 4, 5, 6, 4095, 4095, 8, 9, 4095, 0, 0};
        for (int table : new int[] {41, 42}) {
            for (int e = 0; e < entries.length; e++) {
                Check.due("table " + table + " entry " + e, entry(x, table, e), entries[e]);
            }
            for (int i = 18; i < 512; i++) {
                Check.due("table " + table + " byte " + i, x.byteAt(table * 512 + i), 0);
            }
        }
        Check.dueBytes("packed", x, 41 * 512, 248, 255, 255, 4, 80, 0, 6, 240, 255, 255, 143, 0, 9, 240, 255, 0);
    }

    private static int entry(BootMaker x, int table, int e) {
        int pair = (int) Check.low(x, table * 512 + e * 3 / 2, 2);
        return e % 2 == 0 ? pair % 4096 : pair / 16;
    }

    private static void directory() {
        BootMaker x = Check.usual();
        x.file(Check.name("EMPTY_08"), 0, 0, true);
        Check.due("write()", x.write(), 0);
        String[] names = {"LOADER     ", "DATA       ", "KERNEL     ", "EMPTY_08   "};
        int[][] want = {{2, 1200}, {3, 700}, {7, 1500}, {0, 0}};
        for (int k = 0; k < 4; k++) {
            int at = Check.DIRECTORY + 32 * k;
            Check.dueText("directory " + k, x, at, names[k]);
            Check.dueBytes("directory " + k, x, at + 11, 32, 0, 0, 0, 0, 0, 0, 0, 0, 0, 0, 0, 0, 33, 0);
            Check.dueLow("first cluster of " + k, x, at + 26, 2, want[k][0]);
            Check.dueLow("size of " + k, x, at + 28, 4, want[k][1]);
        }
        for (int i = 128; i < 1024; i++) {
            Check.due("directory byte " + i, x.byteAt(Check.DIRECTORY + i), 0);
        }
    }

    private static void contents() {
        BootMaker x = Check.usual();
        for (int i = 0; i < 1024; i++) {
            int want = i < 700 ? (9 + 7 * i + i / 200) % 256 : 0;
            Check.due("DATA byte " + i, x.byteAt(Check.cluster(3 + i / 512 * 2) + i % 512), want);
        }
        Check.dueBytes("LOADER's head", x, Check.cluster(2), 'L', 'O', 'A', 'D', 40, 0, 0, 0, 59, 66);
        Check.dueBytes("KERNEL's head", x, Check.cluster(7), 'K', 'R', 'N', 'L', 0, 16, 0, 0, 96, 103);
        Check.dueBytes("KERNEL's end", x, Check.cluster(9) + 1499 - 1024, 44, 0);
        Check.dueBytes("a free cluster", x, Check.cluster(10), 0, 0, 0, 0);
    }

    private static void shortHeads() {
        BootMaker x = new BootMaker(100);
        x.partition(0, 20);
        x.file(Check.KERNEL, 7, 1, false);
        x.file(Check.LOADER, 7, 2, false);
        x.file(Check.name("KERNEL2"), 100, 3, false);
        Check.due("write()", x.write(), 0);
        Check.dueBytes("a short KERNEL", x, Check.cluster(2), 1, 8, 15, 22, 29, 36, 43, 0);
        Check.dueBytes("a short LOADER", x, Check.cluster(3), 2, 9, 16, 23, 30, 37, 44, 0);
        Check.dueBytes("its runs", x, 64, 1, 46, 0, 0, 0, 1, 0, 7, 0, 0, 0);
        Check.dueLow("its sum", x, 75, 4, x.sum(Check.cluster(3), 7) & 0xFFFFFFFFL);
        Check.dueBytes("KERNEL2", x, Check.cluster(4), 3, 10, 17, 24, 31, 38, 45, 52, 59);
        BootMaker y = new BootMaker(100);
        y.partition(0, 20);
        y.file(Check.KERNEL, 8, 1, false);
        y.file(Check.LOADER, 8, 2, false);
        Check.due("write()", y.write(), 0);
        Check.dueBytes("the least KERNEL", y, Check.cluster(2), 'K', 'R', 'N', 'L', 0, 0, 0, 0, 0);
        Check.dueBytes("the least LOADER", y, Check.cluster(3), 'L', 'O', 'A', 'D', 40, 0, 0, 0, 0);
    }

    private static void scatteredWraps() {
        // 12 sectors: 7 clusters, 2 .. 8; the scattered file takes 2 4 6 8, then the lowest free ones 3 5.
        BootMaker x = new BootMaker(100);
        x.partition(0, 12);
        x.file('S', 6 * 512, 0, true);
        x.file('T', 1, 0, false);
        Check.due("write()", x.write(), 0);
        int[] entries = {4088, 4095, 4, 5, 6, 4095, 8, 4095, 3};
        for (int e = 0; e < entries.length; e++) {
            Check.due("wrapped entry " + e, entry(x, 41, e), entries[e]);
        }
        Check.dueLow("T's cluster", x, Check.DIRECTORY + 32 + 26, 2, 7);
    }

    private static void scatteredAroundOthers() {
        // A takes 2; B scattered 3 5 7; C scattered 4 6 8 10; D takes 9 11; E scattered starts at 12.
        BootMaker x = new BootMaker(100);
        x.partition(0, 25);
        x.file('A', 512, 0, false);
        x.file('B', 1025, 0, true);
        x.file('C', 2048, 0, true);
        x.file('D', 513, 0, false);
        x.file('E', 1024, 0, true);
        Check.due("write()", x.write(), 0);
        int[] entries = {4088, 4095, 4095, 5, 6, 7, 8, 4095, 10, 11, 4095, 4095, 14, 0, 4095, 0};
        for (int e = 0; e < entries.length; e++) {
            Check.due("scattered entry " + e, entry(x, 41, e), entries[e]);
        }
    }

    private static void tableSectors() {
        // 344 sectors: 339 clusters, 341 entries in 512 bytes; 345 need a second sector.
        int[][] want = {{8, 1}, {343, 1}, {344, 1}, {345, 2}, {527, 2}};
        for (int[] one : want) {
            BootMaker x = new BootMaker(600);
            x.partition(0, one[0]);
            x.file('A', 1, 77, false);
            Check.due("write()", x.write(), 0);
            Check.dueLow("tables of " + one[0], x, 40 * 512 + 22, 2, one[1]);
            Check.dueBytes("second table of " + one[0], x, (41 + one[1]) * 512, 248, 255, 255, 255, 15);
            Check.dueText("directory of " + one[0], x, (41 + 2 * one[1]) * 512, "A   ");
            Check.dueBytes("file of " + one[0], x, (43 + 2 * one[1]) * 512, 77, 0);
        }
    }

    private static void highClusters() {
        // Twelve files of 18 clusters, every other one scattered: the numbers need all twelve bits' places.
        BootMaker x = new BootMaker(600);
        x.partition(0, 500);
        Model model = new Model(600);
        model.partition(0, 500);
        for (int i = 0; i < 12; i++) {
            x.file('A' + i, 9000, i, i % 3 != 1);
            model.file('A' + i, 9000, i, i % 3 != 1);
        }
        Check.due("write()", x.write(), model.write());
        Check.due("the same disk", Arrays.equals(model.disk, Check.image(x, 600)), true);
        BootMaker y = new BootMaker(600);
        y.partition(0, 344);
        for (int i = 0; i < 12; i++) {
            y.file('A' + i, 9000, i, false);
        }
        Check.due("write()", y.write(), 0);
        for (int e = 2; e < 2 + 12 * 18; e++) {
            Check.due("entry " + e, entry(y, 41, e), (e - 1) % 18 == 0 ? 4095 : e + 1);
        }
        Check.due("the entry behind them", entry(y, 41, 2 + 12 * 18), 0);
    }

    private static void writtenAnew() {
        BootMaker x = Check.usual();
        byte[] first = Check.image(x, 160);
        for (int i = 3; i < 160 * 512; i += 97) {
            x.poke(i, x.byteAt(i) + 1);
        }
        Check.due("write()", x.write(), 0);
        Check.due("the same disk again", Arrays.equals(first, Check.image(x, 160)), true);
    }

    private static void otherBootPartitions() {
        BootMaker x = new BootMaker(200);
        x.partition(1, 8);
        x.partition(0, 16);
        x.partition(0, 16);
        x.file('A', 10, 5, false);
        Check.due("write()", x.write(), 0);
        Check.dueBytes("the first", x, 48 * 512, 235, 60, 144);
        for (int i = 64 * 512; i < 80 * 512; i++) {
            Check.due("the second: byteAt(" + i + ")", x.byteAt(i), 0);
        }
        for (int i = 40 * 512; i < 48 * 512; i++) {
            Check.due("data: byteAt(" + i + ")", x.byteAt(i), 0);
        }
    }

    private static void noBootPartition() {
        BootMaker x = new BootMaker(100);
        x.partition(1, 8);
        x.file('A', 0, 0, false);
        x.poke(700, 9);
        byte[] before = Check.image(x, 100);
        Check.due("write() with files alone", x.write(), 1);
        Check.due("the disk stays", Arrays.equals(before, Check.image(x, 100)), true);
        x.partition(0, 8);
        Check.due("write() with a boot partition", x.write(), 0);
        Check.due("the disk is written", x.byteAt(700), 0);
    }

    private static void tooManyClusters() {
        BootMaker x = new BootMaker(100);
        x.partition(0, 8);
        x.file('A', 1024, 1, false);
        x.file('B', 512, 1, true);
        x.file('C', 0, 1, true);
        Check.due("three clusters of three", x.write(), 0);
        byte[] before = Check.image(x, 100);
        x.file('D', 1, 1, false);
        Check.due("four clusters of three", x.write(), 2);
        Check.due("the disk stays", Arrays.equals(before, Check.image(x, 100)), true);
        Check.due("and again", x.write(), 2);
        BootMaker y = new BootMaker(100);
        y.partition(0, 8);
        y.file(Check.LOADER, 9000, 1, true);
        Check.due("no room comes before runs", y.write(), 2);
    }

    private static void runs() {
        // Holes of one cluster: S takes every other one, then LOADER the holes between, one run each.
        BootMaker x = new BootMaker(200);
        x.partition(0, 46);
        x.file('S', 9000, 0, true);
        x.file(Check.LOADER, 9000, 1, false);
        Check.due("17 holes and the end", x.write(), 0);
        Check.due("runs", x.byteAt(64), 18);
        BootMaker y = new BootMaker(200);
        y.partition(0, 60);
        y.file(Check.LOADER, 9000, 1, true);
        Check.due("18 runs, the most that 9000 bytes have", y.write(), 0);
        Check.due("runs", y.byteAt(64), 18);
        Check.dueLow("the last run", y, 65 + 17 * 6, 4, 45 + 34);
        Check.dueLow("size behind it", y, 65 + 18 * 6, 4, 9000);
        BootMaker z = new BootMaker(200);
        z.partition(0, 60);
        z.file('S', 1500, 0, true);
        z.file(Check.LOADER, 5 * 512, 1, false);
        Check.due("write()", z.write(), 0);
        Check.dueBytes("joined", z, 64, 3, 46, 0, 0, 0, 1, 0, 48, 0, 0, 0, 1, 0, 50, 0, 0, 0, 3, 0, 0, 10, 0, 0);
    }

    private static void emptyLoader() {
        BootMaker x = new BootMaker(200);
        x.partition(0, 60);
        x.file(Check.LOADER, 0, 1, false);
        Check.due("write()", x.write(), 0);
        for (int i = 2; i < 446; i++) {
            Check.due("no runs: byteAt(" + i + ")", x.byteAt(i), 0);
        }
    }
}
