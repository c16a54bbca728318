/** Promise 7: byteAt. */
public final class ByteAtTest {
    public static void main(String[] args) {
        BootMaker x = new BootMaker(100);
        int end = 100 * 512;
        for (int outside : new int[] {-1, end, end + 1, Integer.MIN_VALUE, Integer.MAX_VALUE, -end}) {
            Check.due("byteAt(" + outside + ")", x.byteAt(outside), BootMaker.NONE);
        }
        x.write();
        Check.due("byteAt(0)", x.byteAt(0), 235);
        Check.due("byteAt(511)", x.byteAt(511), 170);
        Check.due("byteAt(512)", x.byteAt(512), 69);
        Check.due("byteAt(last)", x.byteAt(end - 1), 0);
        for (int value = 0; value < 256; value++) {
            x.poke(1000 + value, value);
        }
        for (int value = 0; value < 256; value++) {
            Check.due("byteAt(" + (1000 + value) + ")", x.byteAt(1000 + value), value);
        }
        Check.finish();
    }
}
