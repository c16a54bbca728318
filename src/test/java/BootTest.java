/** Promise 10: boot: the modes, what sector 0 must have, and which reason comes first. Other reasons: the other Boot..Tests. */
public final class BootTest {
    public static void main(String[] args) {
        boots();
        noSuchMode();
        endOfSectorZero();
        protectiveByte();
        firstThatIsWrongByTable();
        firstThatIsWrongByLoader();
        diskStays();
        Check.finish();
    }

    static void due(String what, Maker x, int mode, int want) {
        Check.due(what + ": boot(" + mode + ")", x.boot(mode), want);
    }

    /** Boots a usual disk on which one number has been changed. */
    static void spoiled(int mode, int at, int bytes, long value, int want) {
        Maker x = Check.usual();
        Check.pokeLow(x, at, bytes, value);
        due(value + " in " + bytes + " at " + at, x, mode, want);
    }

    /** A disk whose kernel, of 128 neighbouring clusters, is as large as the memory: the chains of eight files made one. */
    static Maker disk65536() {
        Maker x = new Maker(300);
        x.partition(0, 140);
        x.file(Check.KERNEL, 9000, 3, false);
        for (int i = 0; i < 6; i++) {
            x.file('A' + i, 9000, 11 * i, false);
        }
        x.file('G', 1024, 200, false);
        Check.due("write()", x.write(), 0);
        for (int last = 19; last < 128; last += 18) {
            Check.setEntry(x, last, last + 1);
        }
        Check.pokeLow(x, Check.DIRECTORY + 28, 4, 65536);
        return x;
    }

    /** "Boots: the reason" */
    private static void boots() {
        Maker x = Check.usual();
        due("the table", x, 0, 0);
        due("the loader", x, 1, 0);
        due("again", x, 1, 0);
        due("again", x, 0, 0);
        for (int n : new int[] {100, 600, 99}) {
            Maker empty = new Maker(n);
            due("an empty disk", empty, 0, 1);
            due("an empty disk", empty, 1, 1);
            empty.write();
            due("no partitions", empty, 0, 4);
            due("no loader", empty, 1, 9);
        }
        Maker y = new Maker(100);
        y.partition(0, 8);
        y.file(Check.KERNEL, 8, 0, false);
        y.write();
        due("the least kernel", y, 0, 0);
        due("no loader", y, 1, 9);
        Maker z = new Maker(100);
        z.partition(0, 8);
        z.file(Check.LOADER, 8, 0, false);
        z.write();
        due("the least loader, no kernel", z, 1, 6);
        z.file(Check.KERNEL, 1024, 0, true);
        z.write();
        due("the least loader and a kernel", z, 1, 0);
    }

    /** "IllegalArgumentException, changing nothing: mode is not 0 or 1" */
    private static void noSuchMode() {
        int[] modes = {-1, -2, 2, 3, 256, 65536, Check.LEAST, Check.LEAST + 1, Check.MOST, Check.MOST - 1};
        Maker booted = Check.usual();
        due("the table", booted, 0, 0);
        Maker failed = Check.usual();
        failed.poke(Check.cluster(7), 0);
        due("no KRNL", failed, 0, 8);
        for (Maker x : new Maker[] {new Maker(100), Check.planned(), Check.usual(), booted, failed}) {
            int[] before = state(x);
            for (int mode : modes) {
                due("no such mode", x, mode, Maker.ILLEGAL);
                int[] after = state(x);
                for (int i = 0; i < before.length; i++) {
                    Check.due("boot(" + mode + "): state " + i, after[i], before[i]);
                }
            }
        }
    }

    private static int[] state(Maker x) {
        return new int[] {x.booted(0), x.booted(1), x.booted(2), x.booted(3), x.memory(0), x.memory(4096), x.memory(5595),
            x.sum(0, 100 * 512), x.where(0, 0), x.where(1, 1)};
    }

    /** "1 sector 0 has not 85 170 at its end", in both modes */
    private static void endOfSectorZero() {
        for (int mode = 0; mode < 2; mode++) {
            for (int value : new int[] {84, 86, 0, 170, 255}) {
                spoiled(mode, 510, 1, value, 1);
            }
            for (int value : new int[] {169, 171, 0, 85, 42}) {
                spoiled(mode, 511, 1, value, 1);
            }
            spoiled(mode, 510, 2, 85 * 256 + 170, 1);
            spoiled(mode, 510, 2, 85 + 256 * 170, 0);
            spoiled(mode, 509, 1, 85, 0);
            spoiled(mode, 0, 2, 0, 0);
        }
    }

    /** "2 (mode 0) the byte at 450 is not 238": the others of its entry don't count */
    private static void protectiveByte() {
        for (int value : new int[] {237, 239, 0, 255, 110}) {
            spoiled(0, 450, 1, value, 2);
            spoiled(1, 450, 1, value, 0);
        }
        for (int at = 446; at < 510; at++) {
            if (at != 450) {
                spoiled(0, at, 1, 99, 0);
                spoiled(1, at, 1, 99, 0);
            }
        }
    }

    /** "the first that is wrong is the REASON": each thing spoiled on top of those that come later */
    private static void firstThatIsWrongByTable() {
        Maker x = Check.usual();
        x.poke(Check.cluster(7), 0);
        due("no KRNL", x, 0, 8);
        Check.setEntry(x, 8, 0);
        due("chain too", x, 0, 7);
        x.poke(Check.KERNEL_ENTRY, 'X');
        due("entry too", x, 0, 6);
        x.poke(Check.VOLUME + 13, 0);
        due("volume too", x, 0, 5);
        x.poke(64, 0);
        due("runs too, which the table doesn't need", x, 0, 5);
        x.poke(1024, 0);
        Check.seal(x, 1);
        due("boot entry too", x, 0, 4);
        x.poke(512, 0);
        due("first header too, but the copy is good", x, 0, 5);
        x.poke(159 * 512, 0);
        due("copy too", x, 0, 3);
        x.poke(450, 0);
        due("protective entry too", x, 0, 2);
        x.poke(510, 0);
        due("mark too", x, 0, 1);
    }

    private static void firstThatIsWrongByLoader() {
        Maker x = Check.usual();
        x.poke(450, 0);
        x.poke(512, 0);
        x.poke(1024, 0);
        x.poke(159 * 512, 0);
        due("no table, which the loader doesn't need", x, 1, 0);
        x.poke(Check.cluster(7), 0);
        due("no KRNL", x, 1, 8);
        Check.setEntry(x, 8, 0);
        due("chain too", x, 1, 7);
        x.poke(Check.KERNEL_ENTRY, 'X');
        due("entry too", x, 1, 6);
        x.poke(Check.VOLUME + 13, 0);
        due("volume too", x, 1, 5);
        x.poke(64, 0);
        due("runs too", x, 1, 9);
        x.poke(510, 0);
        due("mark too", x, 1, 1);
    }

    private static void diskStays() {
        Maker x = Check.usual();
        int sum = x.sum(0, 160 * 512);
        due("the table", x, 0, 0);
        due("the loader", x, 1, 0);
        Check.due("booting doesn't change the disk", x.sum(0, 160 * 512), sum);
        x.poke(512, 0);
        int spoiled = x.sum(0, 160 * 512);
        due("the copy", x, 0, 0);
        Check.due("nor does it mend it", x.sum(0, 160 * 512), spoiled);
    }
}
