/** Promise 8: poke. */
public final class PokeTest {
    public static void main(String[] args) {
        BootMaker x = new BootMaker(100);
        int end = 100 * 512;
        int[][] pokes = {{0, 7, 7}, {end - 1, 255, 255}, {9, 256, 0}, {10, -1, 255}, {11, 0x1234, 0x34},
            {12, Integer.MIN_VALUE, 0}, {13, Integer.MAX_VALUE, 255}, {14, 128, 128}, {15, -128, 128}};
        for (int[] one : pokes) {
            Check.due("poke(" + one[0] + ", " + one[1] + ")", x.poke(one[0], one[1]), 0);
            Check.due("byteAt(" + one[0] + ")", x.byteAt(one[0]), one[2]);
            Check.due("poke(" + one[0] + ", 1)", x.poke(one[0], 1), one[2]);
            Check.due("poke(" + one[0] + ", 2)", x.poke(one[0], one[1]), 1);
        }
        Check.dueBytes("neighbours", x, 7, 0, 0, 0, 255, 0x34, 0, 255, 128, 128, 0);
        for (int outside : new int[] {-1, end, Integer.MIN_VALUE, Integer.MAX_VALUE}) {
            Check.due("poke(" + outside + ", 9)", x.poke(outside, 9), BootMaker.NONE);
        }
        Check.due("the last byte stays", x.byteAt(end - 1), 255);
        Check.due("the first byte stays", x.byteAt(0), 7);
        Check.finish();
    }
}
