/** Promise 6: how many tables and clusters there are, which of them files take, and the runs of the loader. */
public final class ClustersTest {
    public static void main(String[] args) {
        leastNumberOfTableSectors();
        clustersOfEveryLength();
        lowestFreeOnes();
        everyOtherOne();
        fromWhenThereIsNone();
        atLeastTwoAbove();
        aroundOthers();
        highClusters();
        headsOfEight();
        loaderAboveZero();
        noLoader();
        neighboursJoined();
        mostRuns();
        Check.finish();
    }

    private static void write(Maker x) {
        Check.due("write()", x.write(), 0);
    }

    private static void dueEntries(String what, Maker x, int... want) {
        for (int table : new int[] {41, 42}) {
            for (int e = 0; e < want.length; e++) {
                Check.due(what + ": table " + table + " entry " + e, Check.entry(x, table, e), want[e]);
            }
        }
    }

    /** "F is the least number for which ... (C + 2) * 3 / 2 (rounded up) bytes at most 512 * F": 344 sectors have 341 entries. */
    private static void leastNumberOfTableSectors() {
        int[][] want = {{8, 1}, {9, 1}, {342, 1}, {343, 1}, {344, 1}, {345, 2}, {346, 2}, {526, 2}, {527, 2}};
        for (int[] one : want) {
            Maker x = new Maker(600);
            x.partition(0, one[0]);
            x.file('A', 1, 77, false);
            write(x);
            Check.dueLow("P", x, 40 * 512 + 19, 2, one[0]);
            Check.dueLow("F of " + one[0], x, 40 * 512 + 22, 2, one[1]);
            Check.dueBytes("first table of " + one[0], x, 41 * 512, 248, 255, 255, 255, 15, 0);
            Check.dueBytes("second table of " + one[0], x, (41 + one[1]) * 512, 248, 255, 255, 255, 15, 0);
            Check.dueText("directory of " + one[0], x, (41 + 2 * one[1]) * 512, "A   ");
            Check.dueBytes("file of " + one[0], x, (43 + 2 * one[1]) * 512, 77, 0);
        }
    }

    /** "the CLUSTERS, C = P - 3 - 2 * F": all of them can be taken, one more can't. */
    private static void clustersOfEveryLength() {
        for (int sectors = 8; sectors <= 27; sectors++) {
            int clusters = sectors - 5;
            Maker x = new Maker(100);
            x.partition(0, sectors);
            int first = Math.min(17, clusters);
            x.file('A', first * 512, 1, false);
            x.file('B', (clusters - first) * 512, 2, false);
            write(x);
            Check.due("the last cluster", Check.entry(x, 41, clusters + 1), 4095);
            Check.due("none behind it", Check.entry(x, 41, clusters + 2), 0);
            int i = (clusters > first ? clusters - first : first) * 512 - 1;
            int want = ((clusters > first ? 2 : 1) + 7 * i + i / 200) % 256;
            Check.due("its last byte", x.byteAt((40 + sectors) * 512 - 1), want);
            Check.dueEmpty("none behind the partition", x, (40 + sectors) * 512, 67 * 512);
            Check.due("booting finds no kernel", x.boot(0), 6);
            x.file('C', 1, 1, false);
            Check.due("one cluster more", x.write(), 2);
        }
    }

    /** "Files take clusters in their order: each the lowest free ones" */
    private static void lowestFreeOnes() {
        Maker x = new Maker(100);
        x.partition(0, 20);
        x.file('A', 513, 0, false);
        x.file('B', 0, 0, false);
        x.file('C', 512, 0, false);
        x.file('D', 1025, 0, false);
        write(x);
        dueEntries("in order", x, 4088, 4095, 3, 4095, 4095, 6, 7, 4095, 0);
        int[] first = {2, 0, 4, 5};
        for (int i = 0; i < 4; i++) {
            Check.dueLow("first cluster of " + i, x, Check.DIRECTORY + 32 * i + 26, 2, first[i]);
        }
    }

    /** "a SCATTERED one the lowest free one, then the lowest free one that is at least 2 above the last, and so on" */
    private static void everyOtherOne() {
        Maker x = new Maker(100);
        x.partition(0, 20);
        x.file('S', 2048, 0, true);
        x.file('T', 1024, 0, false);
        x.file('U', 1, 0, true);
        write(x);
        dueEntries("scattered", x, 4088, 4095, 4, 5, 6, 4095, 8, 4095, 4095, 0, 0);
    }

    /** "from when there is none, the lowest free ones": 7 clusters, 2 .. 8; S takes 2 4 6 8, then 3 5, no longer 2 apart. */
    private static void fromWhenThereIsNone() {
        Maker x = new Maker(100);
        x.partition(0, 12);
        x.file('S', 6 * 512, 0, true);
        x.file('T', 1, 0, false);
        write(x);
        dueEntries("wrapped", x, 4088, 4095, 4, 5, 6, 4095, 8, 4095, 3);
        Check.dueLow("T's cluster", x, Check.DIRECTORY + 32 + 26, 2, 7);
        // 6 clusters, 2 .. 7: 2 4 6, then 3 5 7.
        Maker y = new Maker(100);
        y.partition(0, 11);
        y.file('S', 6 * 512, 0, true);
        write(y);
        dueEntries("all of them", y, 4088, 4095, 4, 5, 6, 7, 3, 4095);
        // A has 2 .. 5, S 6 8, then the only one left, 7.
        Maker z = new Maker(100);
        z.partition(0, 12);
        z.file('A', 4 * 512, 0, false);
        z.file('S', 3 * 512, 0, true);
        write(z);
        dueEntries("the only one left", z, 4088, 4095, 3, 4, 5, 4095, 8, 4095, 7);
        // S takes 2 4 6 8 10, T 3 5 7 9 11, then 12, its neighbour.
        Maker u = new Maker(100);
        u.partition(0, 16);
        u.file('S', 5 * 512, 0, true);
        u.file('T', 7 * 512, 0, true);
        Check.due("12 clusters of 11", u.write(), 2);
        Maker v = new Maker(100);
        v.partition(0, 16);
        v.file('S', 5 * 512, 0, true);
        v.file('T', 6 * 512, 0, true);
        write(v);
        dueEntries("neighbours at the end", v, 4088, 4095, 4, 5, 6, 7, 8, 9, 10, 11, 4095, 12, 4095);
        Maker w = new Maker(100);
        w.partition(0, 9);
        w.file('S', 2 * 512, 0, true);
        w.file('T', 2 * 512, 0, true);
        write(w);
        dueEntries("two and two", w, 4088, 4095, 4, 5, 4095, 4095);
    }

    /** "the lowest free one that is at least 2 above the last": with others' clusters in between, and up to the last of all. */
    private static void atLeastTwoAbove() {
        // X takes 2, S 3 5 7 9 (of 2 .. 9), then 4 6 8.
        Maker x = new Maker(100);
        x.partition(0, 13);
        x.file('X', 1, 0, false);
        x.file('S', 7 * 512, 0, true);
        write(x);
        dueEntries("odd ones first", x, 4088, 4095, 4095, 5, 6, 7, 8, 9, 4095, 4);
        // R takes 2 4, A 3, B 5 6; S takes 7 9 11 (of 2 .. 12), then 8 10 12.
        Maker y = new Maker(100);
        y.partition(0, 16);
        y.file('R', 1024, 0, true);
        y.file('A', 512, 0, false);
        y.file('B', 1024, 0, false);
        y.file('S', 6 * 512, 0, true);
        write(y);
        dueEntries("between others", y, 4088, 4095, 4, 4095, 4095, 6, 4095, 9, 10, 11, 12, 8, 4095);
        // R takes 2 4 6 8; S takes 3 5 7 9, then 10 and 11: 11 is 2 above 9, so 11 comes first, then 10.
        Maker z = new Maker(100);
        z.partition(0, 15);
        z.file('R', 4 * 512, 0, true);
        z.file('S', 6 * 512, 0, true);
        write(z);
        dueEntries("the last one first", z, 4088, 4095, 4, 5, 6, 7, 8, 9, 4095, 11, 4095, 10);
    }

    private static void aroundOthers() {
        // A takes 2; B scattered 3 5 7; C scattered 4 6 8 10; D takes 9 11; E scattered starts at 12.
        Maker x = new Maker(100);
        x.partition(0, 25);
        x.file('A', 512, 0, false);
        x.file('B', 1025, 0, true);
        x.file('C', 2048, 0, true);
        x.file('D', 513, 0, false);
        x.file('E', 1024, 0, true);
        write(x);
        dueEntries("around others", x, 4088, 4095, 4095, 5, 6, 7, 8, 4095, 10, 11, 4095, 4095, 14, 0, 4095, 0);
    }

    /** Twelve files of 18 clusters: numbers of more than eight bits, in even and odd entries, with one and two table sectors. */
    private static void highClusters() {
        for (int sectors : new int[] {221, 300, 344, 345, 500}) {
            Maker x = new Maker(600);
            Model model = new Model(600);
            x.partition(0, sectors);
            model.partition(0, sectors);
            for (int i = 0; i < 12; i++) {
                x.file('A' + i, 9000, i, i % 3 != 1);
                model.file('A' + i, 9000, i, i % 3 != 1);
            }
            Check.due(sectors + ": write()", x.write(), model.write());
            Check.dueDisk("twelve files in " + sectors, x, model);
        }
        Maker y = new Maker(600);
        y.partition(0, 344);
        y.partition(1, 8);
        for (int i = 0; i < 12; i++) {
            y.file('A' + i, 9000, i, false);
        }
        write(y);
        for (int e = 2; e < 2 + 12 * 18; e++) {
            Check.due("entry " + e, Check.entry(y, 41, e), (e - 1) % 18 == 0 ? 4095 : e + 1);
        }
        Check.due("the entry behind them", Check.entry(y, 41, 2 + 12 * 18), 0);
    }

    /** "a file KERNEL of 8 bytes or more begins with KRNL", "a file LOADER of 8 or more with LOAD"; shorter ones and others don't */
    private static void headsOfEight() {
        Maker x = new Maker(100);
        x.partition(0, 20);
        x.file(Check.KERNEL, 7, 1, false);
        x.file(Check.LOADER, 7, 2, false);
        x.file(Check.name("KERNEL2"), 100, 3, false);
        x.file(Check.name("LOADER_"), 100, 4, false);
        x.file(Check.name("KERNE"), 100, 5, false);
        x.address(0x01010101);
        write(x);
        Check.dueBytes("a short KERNEL", x, Check.cluster(2), 1, 8, 15, 22, 29, 36, 43, 0);
        Check.dueBytes("a short LOADER", x, Check.cluster(3), 2, 9, 16, 23, 30, 37, 44, 0);
        Check.dueBytes("KERNEL2", x, Check.cluster(4), 3, 10, 17, 24, 31, 38, 45, 52, 59);
        Check.dueBytes("LOADER_", x, Check.cluster(5), 4, 11, 18, 25, 32, 39, 46, 53, 60);
        Check.dueBytes("KERNE", x, Check.cluster(6), 5, 12, 19, 26, 33, 40, 47, 54, 61);
        for (int size : new int[] {8, 9, 512, 9000}) {
            Maker y = new Maker(600);
            y.partition(1, 300);
            y.partition(0, 60);
            y.file(Check.KERNEL, size, 1, false);
            y.file(Check.LOADER, size, 2, false);
            y.address(0x0A0B0C0D);
            write(y);
            int clusters = (size + 511) / 512;
            int kernel = 349 * 512, loader = (349 + clusters) * 512;
            Check.dueBytes("KERNEL of " + size, y, kernel, 'K', 'R', 'N', 'L', 13, 12, 11, 10, size > 8 ? 57 : 0);
            Check.dueBytes("LOADER of " + size, y, loader, 'L', 'O', 'A', 'D', 88, 1, 0, 0, size > 8 ? 58 : 0);
        }
        headsOfOneToSeven();
    }

    private static void headsOfOneToSeven() {
        for (int size = 1; size < 8; size++) {
            Maker x = new Maker(100);
            x.partition(0, 8);
            x.file(Check.KERNEL, size, 250, false);
            x.file(Check.LOADER, size, 240, true);
            write(x);
            for (int i = 0; i < 9; i++) {
                Check.due("KERNEL of " + size + " byte " + i, x.byteAt(Check.cluster(2) + i), i < size ? (250 + 7 * i) % 256 : 0);
                Check.due("LOADER of " + size + " byte " + i, x.byteAt(Check.cluster(3) + i), i < size ? (240 + 7 * i) % 256 : 0);
            }
        }
    }

    /** "if there is a file LOADER of size above 0": 0 has no runs, 1 has one */
    private static void loaderAboveZero() {
        Maker x = new Maker(200);
        x.partition(0, 60);
        x.file(Check.LOADER, 0, 1, false);
        x.file('A', 600, 1, false);
        write(x);
        Check.dueEmpty("a LOADER of size 0", x, 2, 446);
        Maker y = new Maker(200);
        y.partition(0, 60);
        y.file('A', 600, 1, false);
        y.file(Check.LOADER, 1, 65, false);
        write(y);
        Check.dueBytes("a LOADER of size 1", y, 64, 1, 47, 0, 0, 0, 1, 0, 1, 0, 0, 0);
        Check.dueLow("its sum", y, 75, 4, Check.crc(new byte[] {65}) & 0xFFFFFFFFL);
        Check.dueEmpty("behind it", y, 79, 446);
    }

    /** No file LOADER, no runs; one that comes later has them; other names have none. */
    private static void noLoader() {
        Maker x = new Maker(200);
        x.partition(0, 60);
        x.file(Check.KERNEL, 600, 1, false);
        x.file(Check.name("LOADER1"), 600, 1, false);
        x.file(Check.name("OADER"), 600, 1, false);
        write(x);
        Check.dueEmpty("no LOADER", x, 2, 446);
        x.file(Check.LOADER, 600, 1, true);
        write(x);
        Check.dueBytes("a LOADER", x, 64, 2, 51, 0, 0, 0, 1, 0, 53, 0, 0, 0, 1, 0);
    }

    /** "Runs are the file's sectors in order, neighbours joined" */
    private static void neighboursJoined() {
        Maker x = new Maker(200);
        x.partition(0, 60);
        x.file('S', 1500, 0, true);
        x.file(Check.LOADER, 5 * 512, 1, false);
        write(x);
        Check.dueBytes("joined", x, 64, 3, 46, 0, 0, 0, 1, 0, 48, 0, 0, 0, 1, 0, 50, 0, 0, 0, 3, 0, 0, 10, 0, 0);
        Maker y = new Maker(600);
        y.partition(1, 300);
        y.partition(0, 60);
        y.file(Check.LOADER, 9000, 1, false);
        write(y);
        Check.dueBytes("one run of 18", y, 64, 1, 93, 1, 0, 0, 18, 0, 0x28, 0x23, 0, 0);
        // 6 clusters, 2 .. 7: 2 4 6, then 3 5 7: no neighbours in this order, for 3 comes behind 6.
        Maker z = new Maker(100);
        z.partition(0, 11);
        z.file(Check.LOADER, 6 * 512, 0, true);
        write(z);
        Check.dueBytes("in the file's order", z, 64, 6, 45, 0, 0, 0, 1, 0, 47, 0, 0, 0, 1, 0, 49, 0, 0, 0, 1, 0,
            46, 0, 0, 0, 1, 0, 48, 0, 0, 0, 1, 0, 50, 0, 0, 0, 1, 0, 0, 12, 0, 0);
        // R takes 2 4 6 8, LOADER 3 5 7 9, then 11, then 10: a lower neighbour is no run's continuation.
        Maker u = new Maker(100);
        u.partition(0, 15);
        u.file('R', 4 * 512, 0, true);
        u.file(Check.LOADER, 6 * 512, 0, true);
        write(u);
        Check.due("downwards is not joined", u.byteAt(64), 6);
        Check.due("and boots", u.boot(1), 6);
    }

    /** "at most 20": a file has at most 18 clusters, so that 18 runs are the most there can be. */
    private static void mostRuns() {
        Maker y = new Maker(200);
        y.partition(0, 60);
        y.file(Check.LOADER, 9000, 1, true);
        write(y);
        Check.due("18 runs", y.byteAt(64), 18);
        for (int k = 0; k < 18; k++) {
            Check.dueLow("run " + k, y, 65 + k * 6, 4, 45 + 2 * k);
            Check.dueLow("run " + k, y, 69 + k * 6, 2, 1);
        }
        Check.dueLow("size behind them", y, 65 + 18 * 6, 4, 9000);
        Check.dueEmpty("behind all", y, 65 + 18 * 6 + 8, 446);
        Check.due("it boots as far as the directory", y.boot(1), 6);
        // S takes every other cluster, then LOADER the holes between, one run each, and the last joined to none.
        Maker x = new Maker(200);
        x.partition(0, 46);
        x.file('S', 9000, 0, true);
        x.file(Check.LOADER, 9000, 1, false);
        write(x);
        Check.due("17 holes and the end", x.byteAt(64), 18);
    }
}
