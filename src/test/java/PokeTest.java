/** Promise 8: poke. */
public final class PokeTest {
    public static void main(String[] args) {
        lowestEightBits();
        whatItWas();
        outside();
        neighboursStay();
        Check.finish();
    }

    /** "(its lowest eight bits)" */
    private static void lowestEightBits() {
        int[][] values = {{0, 0}, {1, 1}, {127, 127}, {128, 128}, {255, 255}, {256, 0}, {257, 1}, {511, 255}, {512, 0},
            {-1, 255}, {-2, 254}, {-128, 128}, {-255, 1}, {-256, 0}, {-257, 255}, {0x1234, 0x34}, {0xFF00, 0}, {65535, 255},
            {65536, 0}, {1 << 24, 0}, {Check.LEAST, 0}, {Check.LEAST + 1, 1}, {Check.MOST, 255}, {Check.MOST - 1, 254}};
        for (int[] one : values) {
            for (int at : new int[] {0, 5, 511, 512, 51199}) {
                Maker x = new Maker(100);
                Check.due("poke(" + at + ", " + one[0] + ")", x.poke(at, one[0]), 0);
                Check.due("byteAt(" + at + ")", x.byteAt(at), one[1]);
                Check.due("poke(" + at + ", 1)", x.poke(at, 1), one[1]);
                Check.due("byteAt(" + at + ")", x.byteAt(at), 1);
                Check.due("poke(" + at + ", " + one[0] + ")", x.poke(at, one[0]), 1);
            }
        }
    }

    /** "A byte of the disk becomes another one: what it was" */
    private static void whatItWas() {
        Maker x = Check.usual();
        Check.due("poke(0, 9)", x.poke(0, 9), 235);
        Check.due("poke(0, 9)", x.poke(0, 9), 9);
        Check.due("poke(511, 171)", x.poke(511, 171), 170);
        Check.due("boot(0)", x.boot(0), 1);
        Check.due("poke(511, 170)", x.poke(511, 170), 171);
        Check.due("boot(0)", x.boot(0), 0);
        int sum = x.sum(0, 600);
        Check.due("poke(512, 0)", x.poke(512, 0), 69);
        Check.due("the sum is another", x.sum(0, 600) != sum, true);
        Check.due("poke(512, 69)", x.poke(512, 69), 0);
        Check.due("the sum is the same", x.sum(0, 600), sum);
        for (int value = 0; value < 256; value++) {
            Check.due("poke(3000, " + value + ")", x.poke(3000, value), value == 0 ? 0 : value - 1);
        }
    }

    /** "NONE outside", and no byte becomes another one */
    private static void outside() {
        for (int n : new int[] {100, 600, 0}) {
            int end = (n == 0 ? 200 : n) * 512;
            Maker x = new Maker(n);
            x.write();
            int sum = x.sum(0, end);
            for (int at : new int[] {-1, -2, -end, end, end + 1, end + 8, 2 * end, Check.LEAST, Check.LEAST + 1, Check.MOST,
                Check.MOST - 1}) {
                Check.due("poke(" + at + ", 9)", x.poke(at, 9), BootMaker.NONE);
                Check.due("poke(" + at + ", -1)", x.poke(at, -1), BootMaker.NONE);
                Check.due("byteAt(" + at + ")", x.byteAt(at), BootMaker.NONE);
            }
            Check.due("the disk stays", x.sum(0, end), sum);
            Check.due("the last byte is inside", x.poke(end - 1, 7), 0);
            Check.due("the last byte", x.byteAt(end - 1), 7);
            Check.due("the first byte is inside", x.poke(0, 7), 235);
            Check.due("the first byte", x.byteAt(0), 7);
        }
    }

    private static void neighboursStay() {
        for (int at = 4096; at < 4112; at++) {
            Maker x = new Maker(100);
            for (int i = 4090; i < 4120; i++) {
                x.poke(i, 255);
            }
            x.poke(at, 0);
            for (int i = 4089; i < 4121; i++) {
                int want = i < 4090 || i >= 4120 || i == at ? 0 : 255;
                Check.due("poke(" + at + ", 0): byteAt(" + i + ")", x.byteAt(i), want);
            }
            Maker y = new Maker(100);
            y.poke(at, -1);
            Check.due("poke(" + at + ", -1)", y.byteAt(at), 255);
            Check.dueEmpty("before it", y, 0, at);
            Check.dueEmpty("behind it", y, at + 1, 51200);
        }
    }
}
