/** Promise 6: why a disk can't be written, "and it stays as it was". */
public final class RefusedWriteTest {
    public static void main(String[] args) {
        filesAndNoBootPartition();
        nothingAtAll();
        tooManyClusters();
        emptyFilesNeedNone();
        manyFiles();
        bootPartitionBeforeClusters();
        staysAsItWas();
        laterWritingWorks();
        Check.finish();
    }

    private static void due(String what, Maker x, int want) {
        Check.due(what + ": write()", x.write(), want);
    }

    /** "1 files, and no boot partition" */
    private static void filesAndNoBootPartition() {
        for (int size : new int[] {0, 1, 9000}) {
            for (int parts = 0; parts <= 4; parts++) {
                Maker x = new Maker(200);
                for (int k = 0; k < parts; k++) {
                    x.partition(1, 8);
                }
                x.file('A', size, 0, false);
                due(parts + " data partitions, a file of " + size, x, 1);
                Check.dueEmpty("the disk stays", x, 0, 200 * 512);
            }
        }
        Maker y = new Maker(200);
        y.file(Check.LOADER, 0, 0, false);
        due("an empty loader", y, 1);
        y.partition(1, 8);
        due("and a data partition", y, 1);
        y.partition(0, 8);
        due("and a boot partition", y, 0);
    }

    /** Without files no boot partition is needed. */
    private static void nothingAtAll() {
        for (int parts = 0; parts <= 4; parts++) {
            Maker x = new Maker(200);
            for (int k = 0; k < parts; k++) {
                x.partition(1, 8);
            }
            due(parts + " data partitions, no file", x, 0);
            Check.due("a file that is refused is none", x.file('a', 1, 1, false), BootMaker.WRONG);
            due("no file", x, 0);
            Check.due("boots by no table", x.boot(0), 4);
            Check.due("boots by no loader", x.boot(1), 9);
        }
    }

    /** "2 ... or their clusters are too many": 8 sectors have three clusters */
    private static void tooManyClusters() {
        int[][] sizes = {{1536, 0, 0}, {1537, 0, 2}, {1024, 512, 0}, {1024, 513, 2}, {1025, 1, 2}, {513, 512, 0}, {513, 513, 2},
            {1, 1, 0}, {9000, 0, 2}, {0, 9000, 2}, {512, 1024, 0}, {1, 1025, 2}};
        for (int[] one : sizes) {
            for (int way = 0; way < 4; way++) {
                Maker x = new Maker(100);
                x.partition(0, 8);
                x.file('A', one[0], 1, way % 2 == 1);
                x.file('B', one[1], 1, way / 2 == 1);
                due("files of " + one[0] + " and " + one[1], x, one[2]);
            }
        }
        Maker y = new Maker(100);
        y.partition(0, 8);
        y.file(Check.LOADER, 9000, 1, true);
        due("a long loader", y, 2);
        // The room of another boot partition doesn't count.
        Maker z = new Maker(200);
        z.partition(0, 8);
        z.partition(0, 80);
        z.file('A', 1537, 1, false);
        due("room in the second boot partition", z, 2);
    }

    /** Files of size 0 need no clusters, even when there is none left. */
    private static void emptyFilesNeedNone() {
        Maker x = new Maker(100);
        x.partition(0, 8);
        x.file('A', 1536, 1, false);
        for (int i = 1; i < 12; i++) {
            x.file('A' + i, 0, i, i % 2 == 0);
        }
        due("eleven empty files", x, 0);
        for (int i = 1; i < 12; i++) {
            Check.dueLow("first cluster of " + i, x, Check.DIRECTORY + 32 * i + 26, 2, 0);
        }
    }

    /** Twelve files of 18 clusters each: 216 clusters, 221 sectors. */
    private static void manyFiles() {
        for (int sectors = 219; sectors <= 222; sectors++) {
            Maker x = new Maker(400);
            x.partition(0, sectors);
            for (int i = 0; i < 12; i++) {
                x.file('A' + i, 9000, i, i % 2 == 0);
            }
            due("216 clusters in " + sectors + " sectors", x, sectors < 221 ? 2 : 0);
        }
    }

    /** The first reason that holds is told: no boot partition comes before clusters. */
    private static void bootPartitionBeforeClusters() {
        Maker x = new Maker(100);
        x.partition(1, 8);
        x.file('A', 9000, 1, false);
        due("no boot partition", x, 1);
        x.partition(0, 8);
        due("a small one", x, 2);
    }

    /** "and it stays as it was": the disk, what was booted, the memory, the plan */
    private static void staysAsItWas() {
        Maker x = new Maker(100);
        x.partition(0, 8);
        x.file(Check.KERNEL, 1536, 1, false);
        x.address(300);
        due("three clusters", x, 0);
        x.poke(50 * 512 + 3, 99);
        x.poke(46 * 512, 12);
        Check.due("boot(0)", x.boot(0), 0);
        int sum = x.sum(0, 100 * 512);
        x.file('D', 1, 1, false);
        x.address(400);
        for (int i = 0; i < 3; i++) {
            due("four clusters of three", x, 2);
            Check.due("the disk stays", x.sum(0, 100 * 512), sum);
        }
        Check.due("a poked byte stays", x.byteAt(50 * 512 + 3), 99);
        Check.due("the address in the kernel stays", x.byteAt(45 * 512 + 4), 300 - 256);
        Check.due("booted(2) stays", x.booted(2), 300);
        Check.due("memory stays", x.memory(300), 'K');
        Check.due("the partition stays", x.where(0, 1), 8);
        Check.due("the file stays", x.file('D', 1, 1, false), BootMaker.NAMED);
        Check.due("it boots as before", x.boot(0), 0);
        Check.due("booted(2)", x.booted(2), 300);
        Maker y = new Maker(100);
        y.partition(1, 8);
        due("no file", y, 0);
        y.poke(700, 9);
        int before = y.sum(0, 100 * 512);
        y.partition(1, 8);
        y.file('A', 0, 0, false);
        due("a file", y, 1);
        Check.due("the disk stays", y.sum(0, 100 * 512), before);
    }

    /** A refusal is not for ever, and leaves nothing behind in what is written later. */
    private static void laterWritingWorks() {
        Maker x = new Maker(200);
        Model model = new Model(200);
        x.file(Check.LOADER, 2000, 1, true);
        model.file(Check.LOADER, 2000, 1, true);
        x.file('A', 1000, 1, false);
        model.file('A', 1000, 1, false);
        Check.due("write()", x.write(), model.write());
        Check.due("write()", x.write(), 1);
        x.partition(0, 11);
        model.partition(0, 11);
        Check.due("write()", x.write(), model.write());
        Check.dueDisk("later", x, model);
        x.file('B', 1, 1, true);
        model.file('B', 1, 1, true);
        Check.due("write()", x.write(), model.write());
        Check.due("write()", x.write(), 2);
        Check.dueDisk("refused", x, model);
        Check.due("boot(1)", x.boot(1), 6);
    }
}
