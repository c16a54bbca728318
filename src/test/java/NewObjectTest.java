/** Promise 1: a new object, and the constants. */
public final class NewObjectTest {
    private static final int[][] SIZES = {{100, 100}, {101, 101}, {199, 199}, {200, 200}, {599, 599}, {600, 600}, {99, 200},
        {601, 200}, {0, 200}, {1, 200}, {-1, 200}, {-100, 200}, {-600, 200}, {Check.LEAST, 200}, {Check.MOST, 200}};

    public static void main(String[] args) {
        for (int[] size : SIZES) {
            String what = "n " + size[0];
            sectors(what, new Maker(size[0]), size[1]);
            empty(what, new Maker(size[0]), size[1]);
            noPlan(what, new Maker(size[0]), size[1]);
            noFiles(what, new Maker(size[0]), size[1]);
            nothingBooted(what, new Maker(size[0]));
        }
        allMemoryIsZero();
        objectsAreApart();
        constants();
        Check.finish();
    }

    /** "A disk of n sectors, if that is 100 .. 600, otherwise 200" */
    private static void sectors(String what, Maker x, int sectors) {
        int end = sectors * 512;
        Check.due(what + ": the first byte", x.byteAt(0), 0);
        Check.due(what + ": the last byte", x.byteAt(end - 1), 0);
        Check.due(what + ": behind the last byte", x.byteAt(end), BootMaker.NONE);
        Check.due(what + ": poke the last byte", x.poke(end - 1, 5), 0);
        Check.due(what + ": poke behind it", x.poke(end, 5), BootMaker.NONE);
        Check.due(what + ": write()", x.write(), 0);
        Check.dueLow(what + ": N - 1", x, 458, 4, sectors - 1);
        Check.dueText(what + ": the copy's header", x, end - 512, "EFI PART");
    }

    /** "empty" */
    private static void empty(String what, Maker x, int sectors) {
        int end = sectors * 512;
        Check.dueEmpty(what, x, 0, end);
        for (int i : new int[] {0, 1, 64, 446, 510, 511, 512, 20480, end - 512, end - 1}) {
            Check.due(what + ": byteAt(" + i + ")", x.byteAt(i), 0);
        }
        Check.due(what + ": boot(0)", x.boot(0), 1);
        Check.due(what + ": boot(1)", x.boot(1), 1);
    }

    /** "no plan" */
    private static void noPlan(String what, Maker x, int sectors) {
        for (int k = 0; k < 4; k++) {
            for (int w = 0; w < 3; w++) {
                Check.due(what + ": where(" + k + ", " + w + ")", x.where(k, w), BootMaker.NONE);
            }
        }
        Check.due(what + ": write()", x.write(), 0);
        Check.dueEmpty(what + ": no entries", x, 2 * 512, (sectors - 1) * 512);
        Check.due(what + ": first partition", x.partition(1, 8), 0);
        Check.due(what + ": it begins at", x.where(0, 0), 40);
    }

    /** "no files": a file would have no boot partition, and write would answer 1. */
    private static void noFiles(String what, Maker x, int sectors) {
        Check.due(what + ": write()", x.write(), 0);
        Check.due(what + ": first file", x.file(Check.name("A"), 1, 1, false), 0);
        Check.due(what + ": write()", x.write(), 1);
        Check.due(what + ": the loader", x.file(Check.LOADER, 1, 1, false), 1);
    }

    /** "nothing booted" */
    private static void nothingBooted(String what, Maker x) {
        for (int w = -1; w < 5; w++) {
            Check.due(what + ": booted(" + w + ")", x.booted(w), BootMaker.NONE);
        }
        for (int at : new int[] {0, 1, 4096, 65534, 65535}) {
            Check.due(what + ": memory(" + at + ")", x.memory(at), 0);
        }
    }

    private static void allMemoryIsZero() {
        Maker x = new Maker(100);
        for (int i = 0; i < 65536; i++) {
            Check.due("memory(" + i + ")", x.memory(i), 0);
        }
    }

    /** "All memory is the class's own": what one object holds is no other's. */
    private static void objectsAreApart() {
        Maker x = Check.usual();
        Check.due("boot", x.boot(0), 0);
        Maker y = new Maker(160);
        Check.dueEmpty("another object's disk", y, 0, 160 * 512);
        Check.due("another object's booted", y.booted(0), BootMaker.NONE);
        Check.due("another object's memory", y.memory(4096), 0);
        Check.due("another object's partitions", y.where(0, 0), BootMaker.NONE);
        Check.due("another object's files", y.file(Check.KERNEL, 8, 0, false), 0);
        y.partition(0, 8);
        y.write();
        Check.dueLow("another object's address", y, Check.cluster(2) + 4, 4, 0);
        Check.due("the first object's booted", x.booted(2), 4096);
        Check.due("the first object's disk", x.byteAt(Check.cluster(2)), 'L');
    }

    private static void constants() {
        Check.due("NONE", BootMaker.NONE, -1);
        Check.due("WRONG", BootMaker.WRONG, -2);
        Check.due("FULL", BootMaker.FULL, -3);
        Check.due("NAMED", BootMaker.NAMED, -4);
    }
}
