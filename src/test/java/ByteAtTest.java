/** Promise 7: byteAt. */
public final class ByteAtTest {
    public static void main(String[] args) {
        outside();
        firstAndLast();
        everyValue();
        asWritten();
        Check.finish();
    }

    /** "NONE outside" */
    private static void outside() {
        for (int n : new int[] {100, 200, 600, 7}) {
            int end = (n == 7 ? 200 : n) * 512;
            for (Maker x : new Maker[] {new Maker(n), written(n)}) {
                for (int at : new int[] {-1, -2, -512, -end, end, end + 1, end + 511, 2 * end, Check.MOST, Check.MOST - 1,
                    Check.LEAST, Check.LEAST + 1}) {
                    Check.due("byteAt(" + at + ")", x.byteAt(at), BootMaker.NONE);
                }
            }
        }
    }

    private static Maker written(int n) {
        Maker x = new Maker(n);
        x.partition(0, 20);
        x.file(Check.KERNEL, 600, 1, false);
        x.write();
        x.boot(0);
        return x;
    }

    /** The first and the last byte are inside. */
    private static void firstAndLast() {
        for (int n : new int[] {100, 200, 600}) {
            Maker x = written(n);
            int end = n * 512;
            Check.due("byteAt(0)", x.byteAt(0), 235);
            Check.due("byteAt(end - 1)", x.byteAt(end - 1), 0);
            x.poke(0, 1);
            x.poke(end - 1, 2);
            Check.due("byteAt(0)", x.byteAt(0), 1);
            Check.due("byteAt(1)", x.byteAt(1), 62);
            Check.due("byteAt(end - 2)", x.byteAt(end - 2), 0);
            Check.due("byteAt(end - 1)", x.byteAt(end - 1), 2);
        }
    }

    /** "A byte of the disk, 0 .. 255": those of 128 and more are not below 0. */
    private static void everyValue() {
        Maker x = new Maker(100);
        for (int value = 0; value < 256; value++) {
            x.poke(1001 + value, value);
        }
        for (int value = 0; value < 256; value++) {
            Check.due("byteAt(" + (1001 + value) + ")", x.byteAt(1001 + value), value);
        }
    }

    private static void asWritten() {
        Maker x = written(100);
        Check.dueBytes("end of sector 0", x, 508, 0, 0, 85, 170, 69, 70, 73, 32);
        Check.dueText("the copy's header", x, 99 * 512, "EFI PART");
    }
}
