/** Promise 1: a new object, and the constants. */
public final class NewObjectTest {
    public static void main(String[] args) {
        int[][] sizes = {{100, 100}, {101, 101}, {350, 350}, {599, 599}, {600, 600}, {99, 200}, {601, 200}, {0, 200},
            {-1, 200}, {-100, 200}, {Integer.MIN_VALUE, 200}, {Integer.MAX_VALUE, 200}, {200, 200}};
        for (int[] size : sizes) {
            isEmpty(size[0], size[1]);
        }
        objectsAreApart();
        Check.due("NONE", BootMaker.NONE, -1);
        Check.due("WRONG", BootMaker.WRONG, -2);
        Check.due("FULL", BootMaker.FULL, -3);
        Check.due("NAMED", BootMaker.NAMED, -4);
        Check.finish();
    }

    private static void isEmpty(int n, int sectors) {
        BootMaker x = new BootMaker(n);
        for (int i = 0; i < sectors * 512; i++) {
            Check.due("n " + n + ": byteAt(" + i + ")", x.byteAt(i), 0);
        }
        Check.due("n " + n + ": byteAt behind the end", x.byteAt(sectors * 512), BootMaker.NONE);
        for (int i = 0; i < 4; i++) {
            Check.due("n " + n + ": where(" + i + ", 0)", x.where(i, 0), BootMaker.NONE);
            Check.due("n " + n + ": booted(" + i + ")", x.booted(i), BootMaker.NONE);
        }
        Check.due("n " + n + ": memory(0)", Check.memory(x, 0), 0);
        Check.due("n " + n + ": memory(65535)", Check.memory(x, 65535), 0);
        Check.due("n " + n + ": boot(0)", Check.boot(x, 0), 1);
        Check.due("n " + n + ": first partition", x.partition(1, 8), 0);
        Check.due("n " + n + ": first file", x.file(Check.name("A"), 1, 1, false), 0);
    }

    private static void objectsAreApart() {
        BootMaker x = Check.usual();
        Check.due("boot", Check.boot(x, 0), 0);
        BootMaker y = new BootMaker(160);
        Check.due("another object's disk", y.byteAt(512), 0);
        Check.due("another object's booted", y.booted(0), BootMaker.NONE);
        Check.due("another object's memory", Check.memory(y, 4096), 0);
        Check.due("another object's plan", y.where(0, 0), BootMaker.NONE);
    }
}
