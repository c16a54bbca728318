/** Promise 10: reason 5, the first sector of the file system, and reason 6, the directory. */
public final class BootVolumeTest {
    private static final int VOLUME = Check.VOLUME, DIRECTORY = Check.DIRECTORY;

    public static void main(String[] args) {
        endOfItsSector();
        fieldsThatCount();
        fieldsThatDoNot();
        tableSectorsZero();
        clustersLessThanOne();
        manyTableSectors();
        entriesMoreThanTheTablesHold();
        leavesTheDisk();
        atTheBeginningOfTheDisk();
        atTheEndOfTheDisk();
        nameOfTheKernel();
        upToOneThatBeginsWithZero();
        firstSuchOneCounts();
        lastEntryOfTheDirectory();
        Check.finish();
    }

    private static void spoiled(int at, int bytes, long value, int want) {
        BootTest.spoiled(0, at, bytes, value, want);
        BootTest.spoiled(1, at, bytes, value, want);
    }

    /** "5 the sector B hasn't 85 170 at its end" */
    private static void endOfItsSector() {
        for (int value : new int[] {84, 86, 0, 170}) {
            spoiled(VOLUME + 510, 1, value, 5);
        }
        for (int value : new int[] {169, 171, 0, 85}) {
            spoiled(VOLUME + 511, 1, value, 5);
        }
        spoiled(VOLUME + 510, 2, 85 + 256 * 170, 0);
    }

    /** "or at 11, 13, 14, 16, 17 not what is said above": LOW2 512, 1, LOW2 1, 2, LOW2 32; each byte of them */
    private static void fieldsThatCount() {
        int[] said = {0, 2, 1, 1, 0, 2, 32, 0};
        for (int i = 0; i < 8; i++) {
            for (int bit = 1; bit < 256; bit *= 2) {
                spoiled(VOLUME + 11 + i, 1, said[i] ^ bit, 5);
            }
            spoiled(VOLUME + 11 + i, 1, said[i], 0);
        }
    }

    private static void fieldsThatDoNot() {
        for (int i = 0; i < 510; i++) {
            if (i < 11 || i == 21 || i >= 24) {
                spoiled(VOLUME + i, 1, 7, 0);
            }
        }
    }

    /** "F is 0" */
    private static void tableSectorsZero() {
        spoiled(VOLUME + 22, 2, 0, 5);
        spoiled(VOLUME + 22, 2, 1, 0);
        // Without tables there would be clusters enough, and a directory right behind the first sector.
        Maker x = Check.usual();
        Check.pokeLow(x, VOLUME + 22, 2, 0);
        kernelEntry(x, 41 * 512, 2, 8);
        BootTest.due("no tables", x, 0, 5);
    }

    /** A disk with a kernel of one cluster, the first of all. */
    private static Maker small() {
        Maker x = new Maker(160);
        x.partition(0, 40);
        x.file(Check.KERNEL, 300, 1, false);
        x.write();
        return x;
    }

    /** "or C (P is LOW2 at 19) is less than 1": with one table sector 6 sectors have one cluster, 5 have none */
    private static void clustersLessThanOne() {
        int[][] lengths = {{6, 0}, {7, 0}, {5, 5}, {4, 5}, {3, 5}, {1, 5}, {0, 5}};
        for (int[] one : lengths) {
            Maker x = small();
            Check.pokeLow(x, VOLUME + 19, 2, one[0]);
            BootTest.due("P " + one[0], x, 0, one[1]);
        }
        spoiled(VOLUME + 19, 2, 6, 7);
        spoiled(VOLUME + 19, 2, 5, 5);
    }

    /** Writes the directory entry of a kernel. */
    private static void kernelEntry(Maker x, int at, int cluster, int size) {
        Check.pokeText(x, at, "KERNEL      ");
        Check.pokeLow(x, at + 26, 2, cluster);
        Check.pokeLow(x, at + 28, 4, size);
    }

    /** The same by F: 18 table sectors leave one cluster of 40 sectors, 19 less than none; the numbers are LOW2, above 0. */
    private static void manyTableSectors() {
        Maker x = Check.usual();
        Check.pokeLow(x, VOLUME + 22, 2, 18);
        BootTest.due("18 table sectors, no directory there", x, 0, 6);
        kernelEntry(x, (40 + 1 + 36) * 512, 2, 8);
        Check.setEntry(x, 2, 4095);
        Check.pokeText(x, 79 * 512, "KRNL");
        BootTest.due("18 table sectors", x, 0, 0);
        Check.due("memory(0)", x.memory(0), 'K');
        Check.pokeLow(x, VOLUME + 19, 2, 39);
        BootTest.due("18 table sectors of 39", x, 0, 5);
        Check.pokeLow(x, VOLUME + 19, 2, 40);
        BootTest.due("18 table sectors of 40", x, 0, 0);
        for (int f : new int[] {19, 20, 255, 256, 257, 256 + 18, 32767, 32768, 65535}) {
            spoiled(VOLUME + 22, 2, f, 5);
        }
    }

    /** "or the entries of C + 2 are more than F sectors hold": 341 of 12 bits are the most in one */
    private static void entriesMoreThanTheTablesHold() {
        int[][] lengths = {{343, 1, 0}, {344, 1, 0}, {345, 1, 5}, {346, 1, 5}, {500, 1, 5}, {345, 2, 6}, {560, 2, 6}, {561, 2, 5}};
        for (int[] one : lengths) {
            Maker x = new Maker(600);
            x.partition(0, 344);
            x.file(Check.KERNEL, 600, 0, false);
            x.write();
            Check.pokeLow(x, VOLUME + 19, 2, one[0]);
            Check.pokeLow(x, VOLUME + 22, 2, one[1]);
            BootTest.due("P " + one[0] + " F " + one[1], x, 0, one[2]);
        }
        Maker y = new Maker(600);
        y.partition(0, 345);
        y.file(Check.KERNEL, 600, 0, false);
        y.write();
        BootTest.due("P 345 F 2", y, 0, 0);
        Check.pokeLow(y, VOLUME + 19, 2, 560);
        BootTest.due("P 560 F 2", y, 0, 0);
    }

    /** "or B + P is above N" */
    private static void leavesTheDisk() {
        spoiled(VOLUME + 19, 2, 119, 0);
        spoiled(VOLUME + 19, 2, 120, 0);
        spoiled(VOLUME + 19, 2, 121, 5);
        spoiled(VOLUME + 19, 2, 160, 5);
        for (int p : new int[] {32767, 32768, 65535, 256 + 40, 512 + 40}) {
            spoiled(VOLUME + 19, 2, p, 5);
        }
        Maker x = new Maker(600);
        x.partition(0, 400);
        x.file(Check.KERNEL, 600, 0, false);
        x.write();
        Check.pokeLow(x, VOLUME + 19, 2, 560);
        BootTest.due("up to the end of 600", x, 0, 0);
        Check.pokeLow(x, VOLUME + 19, 2, 561);
        BootTest.due("one more", x, 0, 5);
    }

    /** A file system of six sectors anywhere: one sector for each table, one cluster. */
    private static void volumeAt(Maker x, int sector, int length) {
        int at = sector * 512;
        int[] said = {0, 2, 1, 1, 0, 2, 32, 0, length, 0};
        for (int i = 0; i < said.length; i++) {
            x.poke(at + 11 + i, said[i]);
        }
        Check.pokeLow(x, at + 22, 2, 1);
        Check.pokeLow(x, at + 510, 2, 85 + 256 * 170);
        Check.pokeLow(x, at + 512 + 3, 2, 4095);
        kernelEntry(x, at + 3 * 512, 2, 8);
        Check.pokeText(x, at + 5 * 512, "KRNL");
        Check.pokeLow(x, at + 5 * 512 + 4, 4, 1000);
        Check.pokeLow(x, Check.cluster(2) + 4, 4, sector);
        Check.pokeLow(x, 75, 4, x.sum(Check.cluster(2), 8));
    }

    private static Maker loaderAlone() {
        Maker x = new Maker(160);
        x.partition(0, 20);
        x.file(Check.LOADER, 8, 0, false);
        x.write();
        return x;
    }

    /** B may be sector 0 itself. */
    private static void atTheBeginningOfTheDisk() {
        Maker x = loaderAlone();
        volumeAt(x, 0, 6);
        BootTest.due("B is 0", x, 1, 0);
        Check.due("booted(1)", x.booted(1), 0);
        Check.due("booted(2)", x.booted(2), 1000);
    }

    /** The last B that six sectors can have is N - 6. */
    private static void atTheEndOfTheDisk() {
        int[][] places = {{153, 6, 0}, {153, 7, 0}, {153, 8, 5}, {154, 6, 0}, {154, 7, 5}};
        for (int[] one : places) {
            Maker x = loaderAlone();
            volumeAt(x, one[0], one[1]);
            BootTest.due("B is " + one[0] + " P is " + one[1], x, 1, one[2]);
            Check.due("booted(1)", x.booted(1), one[0]);
        }
        for (int sector = 155; sector < 160; sector++) {
            Maker x = loaderAlone();
            volumeAt(x, sector, 6);
            BootTest.due("B is " + sector, x, 1, 5);
            Maker y = loaderAlone();
            volumeAt(y, sector, 160 - sector);
            BootTest.due("B is " + sector + ", and C less than 1", y, 1, 5);
        }
    }

    /** "6 no entry of the directory ... has KERNEL and five blanks as its name and 32 at 11" */
    private static void nameOfTheKernel() {
        int kernel = Check.KERNEL_ENTRY;
        for (int i = 0; i < 12; i++) {
            Maker plain = Check.usual();
            int was = plain.byteAt(kernel + i);
            for (int bit : new int[] {1, 32, 128}) {
                spoiled(kernel + i, 1, was ^ bit, 6);
            }
            spoiled(kernel + i, 1, 0, 6);
            spoiled(kernel + i, 1, was, 0);
        }
        for (int i = 12; i < 26; i++) {
            spoiled(kernel + i, 1, 99, 0);
        }
        Maker none = new Maker(160);
        none.partition(0, 40);
        none.file(Check.name("KERNEL1"), 100, 0, false);
        none.file(Check.name("KERNE"), 100, 0, false);
        none.file(Check.name("XKERNEL"), 100, 0, false);
        none.write();
        BootTest.due("names like it", none, 0, 6);
    }

    /** "(up to one that begins with 0" */
    private static void upToOneThatBeginsWithZero() {
        spoiled(DIRECTORY, 1, 0, 6);
        spoiled(DIRECTORY + 32, 1, 0, 6);
        spoiled(DIRECTORY + 96, 1, 0, 0);
        spoiled(DIRECTORY, 1, 229, 0);
        spoiled(DIRECTORY, 1, 1, 0);
        spoiled(DIRECTORY + 1, 1, 0, 0);
        spoiled(DIRECTORY + 31, 1, 0, 0);
        for (int entry = 0; entry < 2; entry++) {
            for (int i = 1; i < 32; i++) {
                BootTest.spoiled(0, DIRECTORY + 32 * entry + i, 1, 0, 0);
            }
        }
    }

    /** "the first such one counts)": one of another name or without 32 does not */
    private static void firstSuchOneCounts() {
        Maker x = Check.usual();
        kernelEntry(x, DIRECTORY + 32, 3, 7);
        x.poke(DIRECTORY + 32 + 11, 16);
        BootTest.due("a KERNEL that is no file", x, 0, 0);
        x.poke(DIRECTORY + 32 + 11, 33);
        BootTest.due("a KERNEL that is no plain file", x, 0, 0);
        x.poke(DIRECTORY + 32 + 11, 32);
        BootTest.due("the first KERNEL, whose chain is longer", x, 0, 7);
        Check.setEntry(x, 3, 4095);
        BootTest.due("the first KERNEL, of 7 bytes", x, 0, 8);
        x.poke(DIRECTORY + 32, 'X');
        BootTest.due("the second KERNEL", x, 0, 0);
        kernelEntry(x, DIRECTORY + 96, 3, 7);
        BootTest.due("one more behind it", x, 0, 0);
    }

    /** The directory has 32 entries: two sectors. */
    private static void lastEntryOfTheDirectory() {
        for (int last : new int[] {15, 16, 30, 31, 32, 33}) {
            Maker x = Check.usual();
            for (int k = 2; k < last; k++) {
                x.poke(DIRECTORY + k * 32, 'X');
            }
            kernelEntry(x, DIRECTORY + last * 32, 7, 1500);
            BootTest.due("entry " + last + " of the directory", x, 0, last < 32 ? 0 : 6);
        }
        Maker y = Check.usual();
        for (int k = 2; k < 32; k++) {
            y.poke(DIRECTORY + k * 32, 'X');
        }
        BootTest.due("a full directory without one", y, 0, 6);
    }
}
