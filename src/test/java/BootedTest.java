/** Promise 11: booted. */
public final class BootedTest {
    private static final int NONE = BootMaker.NONE;

    public static void main(String[] args) {
        beforeAny();
        whichHeader();
        noneForTheLoader();
        whenItDidNotComeSoFar();
        notInMemory();
        numbersOfTwoBytes();
        anotherWhat();
        latestBoot();
        Check.finish();
    }

    private static void due(String when, Maker x, int... want) {
        for (int what = 0; what < 4; what++) {
            Check.due(when + ": booted(" + what + ")", x.booted(what), want[what]);
        }
        for (int what : new int[] {-1, 4, Check.MOST, Check.LEAST}) {
            Check.due(when + ": booted(" + what + ")", x.booted(what), NONE);
        }
    }

    private static void booted(Maker x, int mode, int reason, int... want) {
        Check.due("boot(" + mode + ")", x.boot(mode), reason);
        due("mode " + mode + " reason " + reason, x, want);
    }

    /** "NONE before any" */
    private static void beforeAny() {
        for (Maker x : new Maker[] {new Maker(100), Check.planned(), Check.usual()}) {
            due("before any", x, NONE, NONE, NONE, NONE);
            for (int mode : new int[] {2, -1, Check.LEAST, Check.MOST}) {
                Check.due("boot(" + mode + ")", x.boot(mode), Maker.ILLEGAL);
                due("a mode that is none is no boot", x, NONE, NONE, NONE, NONE);
            }
        }
    }

    /** "what 0 which header was used (1, 2; 0 none)" */
    private static void whichHeader() {
        booted(Check.usual(), 0, 0, 1, 40, 4096, 1500);
        Maker copy = Check.usual();
        copy.poke(512, 0);
        booted(copy, 0, 0, 2, 40, 4096, 1500);
        Maker first = Check.usual();
        first.poke(159 * 512, 0);
        booted(first, 0, 0, 1, 40, 4096, 1500);
        first.poke(512, 0);
        booted(first, 0, 3, 0, NONE, NONE, NONE);
    }

    /** By the loader no header is used. */
    private static void noneForTheLoader() {
        Maker x = Check.usual();
        booted(x, 1, 0, 0, 40, 4096, 1500);
        x.poke(512, 0);
        booted(x, 1, 0, 0, 40, 4096, 1500);
        x.poke(159 * 512, 0);
        booted(x, 1, 0, 0, 40, 4096, 1500);
    }

    /** "1 B (NONE when it didn't come so far)": reasons 1, 2, 3, 4 and 9; the header of reason 4 was used */
    private static void whenItDidNotComeSoFar() {
        for (int mode = 0; mode < 2; mode++) {
            booted(new Maker(100), mode, 1, 0, NONE, NONE, NONE);
        }
        Maker x = Check.usual();
        x.poke(450, 0);
        booted(x, 0, 2, 0, NONE, NONE, NONE);
        Maker y = Check.usual();
        y.poke(512, 0);
        y.poke(159 * 512, 0);
        booted(y, 0, 3, 0, NONE, NONE, NONE);
        Maker empty = new Maker(100);
        empty.write();
        booted(empty, 0, 4, 1, NONE, NONE, NONE);
        empty.poke(512, 0);
        booted(empty, 0, 4, 2, NONE, NONE, NONE);
        booted(empty, 1, 9, 0, NONE, NONE, NONE);
        Maker z = Check.usual();
        z.poke(Check.cluster(2) + 20, 1);
        booted(z, 1, 9, 0, NONE, NONE, NONE);
    }

    /** "2 the kernel's address, 3 its size (NONE both when it is not in memory)": reasons 5, 6, 7 and 8, which have B */
    private static void notInMemory() {
        int[][] pokes = {{Check.VOLUME + 13, 0, 5}, {Check.KERNEL_ENTRY, 'X', 6}, {Check.KERNEL_ENTRY + 26, 8, 7},
            {Check.cluster(7), 'X', 8}, {Check.cluster(7) + 7, 128, 8}, {Check.cluster(7) + 6, 1, 8}};
        for (int[] one : pokes) {
            Maker x = Check.usual();
            x.poke(one[0], one[1]);
            booted(x, 0, one[2], 1, 40, NONE, NONE);
            booted(x, 1, one[2], 0, 40, NONE, NONE);
            x.poke(512, 0);
            booted(x, 0, one[2], 2, 40, NONE, NONE);
        }
        Maker first = new Maker(100);
        first.write();
        Check.pokeBootEntry(first, 0, 0, 0);
        Check.seal(first, 1);
        booted(first, 0, 5, 1, 0, NONE, NONE);
        Check.pokeBootEntry(first, 0, 99, 99);
        Check.seal(first, 1);
        booted(first, 0, 5, 1, 99, NONE, NONE);
    }

    private static void numbersOfTwoBytes() {
        Maker x = new Maker(600);
        x.partition(1, 300);
        x.partition(0, 100);
        x.file(Check.LOADER, 8, 0, false);
        x.file(Check.KERNEL, 9000, 0, false);
        x.address(65536 - 9000);
        x.write();
        booted(x, 0, 0, 1, 344, 56536, 9000);
        booted(x, 1, 0, 0, 344, 56536, 9000);
        Maker y = new Maker(100);
        y.partition(0, 8);
        y.file(Check.KERNEL, 8, 0, false);
        y.write();
        booted(y, 0, 0, 1, 40, 0, 8);
        y.address(65528);
        y.write();
        booted(y, 0, 0, 1, 40, 65528, 8);
        booted(BootTest.disk65536(), 0, 0, 1, 40, 0, 65536);
    }

    /** "and for another what" */
    private static void anotherWhat() {
        Maker x = Check.usual();
        Check.due("boot(0)", x.boot(0), 0);
        for (int what : new int[] {-1, -2, -3, 4, 5, 256, 65536, Check.LEAST, Check.LEAST + 1, Check.LEAST + 3, Check.MOST}) {
            Check.due("booted(" + what + ")", x.booted(what), NONE);
        }
    }

    /** "Of the latest boot": nothing else changes it */
    private static void latestBoot() {
        Maker x = Check.usual();
        booted(x, 0, 0, 1, 40, 4096, 1500);
        booted(x, 1, 0, 0, 40, 4096, 1500);
        booted(x, 0, 0, 1, 40, 4096, 1500);
        for (int mode : new int[] {-1, 2, Check.LEAST, Check.MOST}) {
            Check.due("boot(" + mode + ")", x.boot(mode), Maker.ILLEGAL);
            due("an illegal mode changes nothing", x, 1, 40, 4096, 1500);
        }
        x.address(70000);
        due("an address changes nothing", x, 1, 40, 4096, 1500);
        x.write();
        due("writing changes nothing", x, 1, 40, 4096, 1500);
        x.poke(510, 0);
        x.partition(0, 8);
        x.file('Q', 9000, 0, false);
        x.write();
        due("nor does anything else", x, 1, 40, 4096, 1500);
        booted(x, 0, 8, 1, 40, NONE, NONE);
        x.poke(510, 0);
        booted(x, 0, 1, 0, NONE, NONE, NONE);
        x.poke(510, 85);
        x.address(0);
        x.write();
        booted(x, 1, 0, 0, 40, 0, 1500);
    }
}
