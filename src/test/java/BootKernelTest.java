/** Promise 10: reason 7, the kernel's chain, and reason 8, the kernel itself. */
public final class BootKernelTest {
    private static final int FIRST = Check.KERNEL_ENTRY + 26, SIZE = Check.KERNEL_ENTRY + 28;

    public static void main(String[] args) {
        asManyClustersAsTheSizeNeeds();
        chainsTooShortOrTooLong();
        noMoreThanC();
        firstCluster();
        laterClusters();
        entryOfTheLast();
        inTheFirstTable();
        sizeZeroNeedsNone();
        backwards();
        sizeBelowEight();
        beginsWithKrnl();
        leavesTheMemory();
        writtenKernels();
        Check.finish();
    }

    /** A usual disk on which an entry of the first cluster table has been changed. */
    private static void entryIs(int entry, int value, int want) {
        for (int mode = 0; mode < 2; mode++) {
            Maker x = Check.usual();
            Check.setEntry(x, entry, value);
            BootTest.due("entry " + entry + " is " + value, x, mode, want);
        }
    }

    private static void sizeIs(long size, int want) {
        BootTest.spoiled(0, SIZE, 4, size, want);
        BootTest.spoiled(1, SIZE, 4, size, want);
    }

    /** "7 its chain: it has as many clusters as its size needs": three for 1025 .. 1536 bytes */
    private static void asManyClustersAsTheSizeNeeds() {
        sizeIs(1024, 7);
        sizeIs(1025, 0);
        sizeIs(1500, 0);
        sizeIs(1536, 0);
        sizeIs(1537, 7);
        sizeIs(512, 7);
        sizeIs(513, 7);
        sizeIs(8, 7);
        sizeIs(1, 7);
        sizeIs(2048, 7);
        for (long size : new long[] {1L << 31, 1L << 31 | 1500, 0xFFFFFFFFL, 0xFFFFFE01L, 0x7FFFFFFFL, 1 << 16 | 1500,
            1 << 24 | 1500}) {
            sizeIs(size, 7);
        }
    }

    private static void chainsTooShortOrTooLong() {
        entryIs(7, 4095, 7);
        entryIs(8, 4095, 7);
        entryIs(8, 4088, 7);
        entryIs(9, 10, 7);
        entryIs(9, 9, 7);
        entryIs(9, 7, 7);
        entryIs(8, 7, 7);
        entryIs(8, 8, 7);
        entryIs(7, 9, 7);
    }

    /** "no more than C": 8 sectors have three clusters */
    private static void noMoreThanC() {
        Maker x = new Maker(100);
        x.partition(0, 8);
        x.file(Check.KERNEL, 1536, 0, false);
        x.write();
        BootTest.due("all clusters", x, 0, 0);
        Check.pokeLow(x, Check.DIRECTORY + 28, 4, 1537);
        BootTest.due("one more", x, 0, 7);
        Check.setEntry(x, 4, 2);
        BootTest.due("one more, in a ring", x, 0, 7);
        Check.pokeLow(x, Check.DIRECTORY + 28, 4, 1536);
        BootTest.due("a ring", x, 0, 7);
        // Of 40 sectors 35 are clusters: a chain through all of them, made of two files.
        Maker y = new Maker(160);
        y.partition(0, 40);
        y.file(Check.KERNEL, 9000, 0, false);
        y.file('A', 17 * 512, 0, false);
        y.write();
        Check.setEntry(y, 19, 20);
        Check.pokeLow(y, Check.DIRECTORY + 28, 4, 35 * 512);
        BootTest.due("all 35 clusters", y, 0, 0);
        Check.due("booted(3)", y.booted(3), 35 * 512);
        Check.pokeLow(y, Check.DIRECTORY + 28, 4, 35 * 512 + 1);
        BootTest.due("36 clusters", y, 0, 7);
        Check.pokeLow(y, Check.VOLUME + 19, 2, 39);
        Check.pokeLow(y, Check.DIRECTORY + 28, 4, 35 * 512);
        BootTest.due("35 clusters of 34", y, 0, 7);
    }

    /** "each 2 .. C + 1": the first; 36 is the last cluster of all, and here it begins no chain of three */
    private static void firstCluster() {
        for (int cluster : new int[] {0, 1, 2, 3, 5, 6, 8, 9, 10, 36, 37, 38, 256 + 7, 4096 + 7, 32768 + 7, 4088, 4095, 32768,
            65535}) {
            // 2 4 6 is the loader's chain, of as many clusters, but it doesn't begin with KRNL.
            BootTest.spoiled(0, FIRST, 2, cluster, cluster == 2 ? 8 : 7);
            BootTest.spoiled(1, FIRST, 2, cluster, cluster == 2 ? 8 : 7);
        }
        BootTest.spoiled(0, FIRST, 2, 7, 0);
        oneCluster(2, 0);
        oneCluster(36, 0);
        oneCluster(37, 7);
        oneCluster(1, 7);
        oneCluster(0, 7);
    }

    /** A kernel of one cluster, wherever that is; entries that don't belong to a cluster are made an end of a chain, too. */
    private static void oneCluster(int cluster, int want) {
        Maker x = new Maker(160);
        x.partition(0, 40);
        x.file(Check.KERNEL, 8, 0, false);
        x.write();
        Check.pokeLow(x, Check.DIRECTORY + 26, 2, cluster);
        Check.setEntry(x, cluster, 4095);
        // Where a cluster 0 would be, there is the directory.
        if (cluster > 0) {
            Check.pokeText(x, Check.cluster(cluster), "KRNL");
            Check.pokeLow(x, Check.cluster(cluster) + 4, 4, 600);
        }
        BootTest.due("the only cluster is " + cluster, x, 0, want);
        Check.due("booted(2)", x.booted(2), want == 0 ? 600 : BootMaker.NONE);
    }

    /** The same for one in the middle and for the last one. */
    private static void laterClusters() {
        for (int cluster : new int[] {0, 1, 10, 37, 38, 4087, 4088, 4095}) {
            entryIs(7, cluster, 7);
            entryIs(8, cluster, 7);
        }
        for (int cluster : new int[] {2, 36, 37, 1, 0}) {
            Maker x = Check.usual();
            Check.setEntry(x, cluster, 4095);
            Check.setEntry(x, 8, cluster);
            BootTest.due("the last cluster is " + cluster, x, 0, cluster == 2 || cluster == 36 ? 0 : 7);
            Maker y = Check.usual();
            Check.setEntry(y, cluster, 9);
            Check.setEntry(y, 7, cluster);
            BootTest.due("the middle cluster is " + cluster, y, 0, cluster == 2 || cluster == 36 ? 0 : 7);
        }
    }

    /** "the entry of the last one in the first table is 4088 or more", for an odd one (9) and an even one (8) */
    private static void entryOfTheLast() {
        for (int value = 4080; value < 4096; value++) {
            entryIs(9, value, value < 4088 ? 7 : 0);
            Maker x = Check.usual();
            Check.setEntry(x, 8, value);
            Check.pokeLow(x, SIZE, 4, 1000);
            BootTest.due("entry 8 is " + value, x, 0, value < 4088 ? 7 : 0);
        }
        for (int value : new int[] {0, 1, 2, 10, 36, 37, 255, 2047, 2048, 4079}) {
            entryIs(9, value, 7);
        }
    }

    private static void inTheFirstTable() {
        Maker x = Check.usual();
        for (int i = 0; i < 20; i++) {
            x.poke(42 * 512 + i, 0);
        }
        BootTest.due("the second table doesn't count", x, 0, 0);
        Maker y = Check.usual();
        for (int i = 9; i < 20; i++) {
            y.poke(41 * 512 + i, 0);
        }
        BootTest.due("and doesn't help", y, 0, 7);
    }

    /** "(a size of 0 needs none)": the chain is right, and the size is below 8 */
    private static void sizeZeroNeedsNone() {
        Maker x = new Maker(100);
        x.partition(0, 20);
        x.file(Check.KERNEL, 0, 0, false);
        x.write();
        BootTest.due("an empty kernel", x, 0, 8);
        Check.pokeLow(x, Check.DIRECTORY + 26, 2, 9);
        BootTest.due("an empty kernel with a cluster", x, 0, 8);
        Check.pokeLow(x, Check.DIRECTORY + 28, 4, 1);
        BootTest.due("one byte needs one", x, 0, 7);
        sizeIs(0, 8);
    }

    /** A chain goes where its entries say: here 7, then 2 and 3. */
    private static void backwards() {
        Maker x = Check.usual();
        Check.setEntry(x, 7, 2);
        Check.setEntry(x, 2, 3);
        Check.setEntry(x, 3, 4088);
        BootTest.due("a chain through lower clusters", x, 0, 0);
        Check.due("its second cluster", x.memory(4096 + 512), 'L');
        Check.due("its third cluster", x.memory(4096 + 1024), 9);
        Check.due("its last byte", x.memory(4096 + 1499), x.byteAt(Check.cluster(3) + 1499 - 1024));
        Check.due("behind it", x.memory(4096 + 1500), 0);
    }

    /** "8 the size is below 8": here the chain is one cluster */
    private static void sizeBelowEight() {
        for (int size : new int[] {1, 2, 7, 8, 9, 511, 512}) {
            Maker x = Check.usual();
            Check.setEntry(x, 7, 4095);
            Check.pokeLow(x, SIZE, 4, size);
            BootTest.due("size " + size, x, 0, size < 8 ? 8 : 0);
            Check.due("booted(3)", x.booted(3), size < 8 ? BootMaker.NONE : size);
        }
    }

    /** "or it doesn't begin with KRNL" */
    private static void beginsWithKrnl() {
        int head = Check.cluster(7);
        String mark = "KRNL";
        for (int i = 0; i < 4; i++) {
            for (int bit : new int[] {1, 32, 128}) {
                BootTest.spoiled(0, head + i, 1, mark.charAt(i) ^ bit, 8);
                BootTest.spoiled(1, head + i, 1, mark.charAt(i) ^ bit, 8);
            }
        }
        BootTest.spoiled(0, head + 8, 1, 0, 0);
    }

    /** "or the address and size leave the MEMORY of 65536 bytes" */
    private static void leavesTheMemory() {
        int head = Check.cluster(7);
        long[][] addresses = {{0, 0}, {1, 0}, {65536 - 1501, 0}, {65536 - 1500, 0}, {65536 - 1499, 8}, {65535, 8}, {65536, 8},
            {65537, 8}, {1 << 16 | 4096, 8}, {1 << 24 | 4096, 8}, {0x7FFFFFFFL, 8}, {1L << 31, 8}, {1L << 31 | 4096, 8},
            {0xFFFFFFFFL, 8}, {0xFFFFFFFFL - 1499, 8}, {0xFFFFFFFFL - 1500, 8}, {0xFFFF1000L, 8}};
        for (long[] one : addresses) {
            BootTest.spoiled(0, head + 4, 4, one[0], (int) one[1]);
            BootTest.spoiled(1, head + 4, 4, one[0], (int) one[1]);
        }
        Maker x = BootTest.disk65536();
        BootTest.due("a kernel as large as the memory", x, 0, 0);
        Check.pokeLow(x, Check.cluster(2) + 4, 4, 1);
        BootTest.due("one higher", x, 0, 8);
        Check.pokeLow(x, Check.cluster(2) + 4, 4, 0);
        Check.setEntry(x, 129, 130);
        Check.setEntry(x, 130, 4095);
        Check.pokeLow(x, Check.DIRECTORY + 28, 4, 65537);
        BootTest.due("one longer", x, 0, 8);
        Check.pokeLow(x, Check.DIRECTORY + 28, 4, 65536 + 512);
        BootTest.due("a cluster longer", x, 0, 8);
        tellingAddresses();
    }

    /** The same by the address that the plan tells. */
    private static void tellingAddresses() {
        for (int size : new int[] {8, 9000}) {
            int[][] addresses = {{65536 - size, 0}, {65536 - size + 1, 8}, {65536, 8}, {Check.MOST, 8}, {Check.MOST - size, 8}};
            for (int[] one : addresses) {
                Maker x = new Maker(100);
                x.partition(0, 23);
                x.file(Check.KERNEL, size, 0, false);
                Check.due("address(" + one[0] + ")", x.address(one[0]), true);
                x.write();
                BootTest.due("size " + size + " address " + one[0], x, 0, one[1]);
            }
        }
    }

    /** What write makes of a kernel is what boot takes. */
    private static void writtenKernels() {
        for (int size : new int[] {0, 1, 7, 8, 9, 511, 512, 513, 1024, 1025, 8704, 8705, 9000}) {
            for (int way = 0; way < 2; way++) {
                Maker x = new Maker(200);
                x.partition(1, 9);
                x.partition(0, 60);
                x.file('A', 2000, 1, true);
                x.file(Check.KERNEL, size, 5, way == 1);
                x.address(777);
                Check.due("write()", x.write(), 0);
                BootTest.due("a kernel of " + size, x, 0, size < 8 ? 8 : 0);
                for (int i = 8; i < size; i += 127) {
                    Check.due("memory(" + (777 + i) + ")", x.memory(777 + i), (5 + 7 * i + i / 200) % 256);
                }
                if (size > 8) {
                    Check.due("its last byte", x.memory(776 + size), (5 + 7 * (size - 1) + (size - 1) / 200) % 256);
                }
                Check.due("behind it", x.memory(777 + size), 0);
            }
        }
    }
}
