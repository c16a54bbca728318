import java.util.Arrays;

/** Promise 9: sum. */
public final class SumTest {
    private static final int END = 100 * 512;

    public static void main(String[] args) {
        knownSums();
        everyByte();
        ranges();
        notAllInTheDisk();
        belowZero();
        none();
        Check.finish();
    }

    private static void due(Maker x, int at, int n, int want) {
        Check.due("sum(" + at + ", " + n + ")", x.sum(at, n), want);
    }

    /** "SUM of bytes", "as an int": above 0 and below 0 */
    private static void knownSums() {
        Maker x = new Maker(100);
        Check.pokeText(x, 100, "123456789");
        due(x, 100, 9, 0xCBF43926);
        due(x, 0, 1, 0xD202EF8D);
        due(x, 0, 4, 0x2144DF1C);
        Check.pokeLow(x, 200, 4, 0xFFFFFFFFL);
        due(x, 200, 4, -1);
    }

    private static void everyByte() {
        Maker x = new Maker(100);
        for (int i = 0; i < 256; i++) {
            x.poke(1003 + i, 255 - i);
        }
        for (int i = 0; i < 256; i++) {
            due(x, 1003 + i, 1, Check.crc(new byte[] {(byte) (255 - i)}));
        }
    }

    /** All that are in the disk, up to its last byte */
    private static void ranges() {
        Maker x = new Maker(100);
        Model model = new Model(100);
        for (int i = 0; i < 400; i++) {
            int at = i < 20 ? i : i < 40 ? END - 1 - (i - 20) : i * 127;
            x.poke(at, i * 31 + 1);
            model.poke(at, i * 31 + 1);
        }
        int[][] ranges = {{0, END}, {1, END - 1}, {0, END - 1}, {END - 1, 1}, {END - 2, 1}, {END - 2, 2}, {END - 512, 512}, {0, 1},
            {1003, 256}, {1001, 77}, {99, 11}, {7, 8}, {8, 8}, {512, 16384}};
        for (int[] one : ranges) {
            due(x, one[0], one[1], Check.crc(Arrays.copyOfRange(model.disk, one[0], one[0] + one[1])));
        }
    }

    /** "0 when they are not all in it" */
    private static void notAllInTheDisk() {
        Maker x = new Maker(100);
        x.write();
        int[][] zero = {{-1, 1}, {-1, 2}, {-1, 5}, {-5, 6}, {-512, 1024}, {0, END + 1}, {1, END}, {END - 1, 2}, {END - 512, 513},
            {END, 1}, {END + 1, 1}, {END, 512}, {Check.MOST, 1}, {1, Check.MOST}, {0, Check.MOST}, {END - 1, Check.MOST},
            {Check.MOST, Check.MOST}, {Check.LEAST, 1}, {Check.LEAST, Check.MOST}, {Check.LEAST + 1, Check.MOST}, {-1, Check.MOST},
            {-Check.MOST, Check.MOST}, {Check.MOST - 5, 10}, {Check.MOST, 2}};
        for (int[] one : zero) {
            due(x, one[0], one[1], 0);
        }
        due(x, 0, END, Check.crc(writtenDisk()));
        Maker y = new Maker(600);
        due(y, 0, 600 * 512, Check.crc(new byte[600 * 512]));
        due(y, 0, 600 * 512 + 1, 0);
        due(y, 599 * 512, 512, Check.crc(new byte[512]));
        due(y, 599 * 512, 513, 0);
    }

    private static byte[] writtenDisk() {
        Model model = new Model(100);
        model.write();
        return model.disk;
    }

    /** "or n is below 0" */
    private static void belowZero() {
        Maker x = new Maker(100);
        x.write();
        for (int at : new int[] {0, 1, 100, 512, END - 1, END, END + 1, -1, Check.MOST, Check.LEAST}) {
            for (int n : new int[] {-1, -2, -100, -END, Check.LEAST, Check.LEAST + 1}) {
                due(x, at, n, 0);
            }
        }
    }

    /** The sum of no bytes: 32 bits of 1, all the other way round. */
    private static void none() {
        Maker x = new Maker(100);
        x.write();
        for (int at : new int[] {0, 1, 511, END - 1, END, END + 1, -1, Check.MOST, Check.LEAST}) {
            due(x, at, 0, 0);
        }
    }
}
