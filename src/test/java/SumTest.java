import java.util.zip.CRC32;

/** Promise 9: sum. */
public final class SumTest {
    public static void main(String[] args) {
        BootMaker x = new BootMaker(100);
        int end = 100 * 512;
        Check.pokeText(x, 100, "123456789");
        Check.due("sum of the digits", x.sum(100, 9), 0xCBF43926);
        Check.due("sum of one 0", x.sum(0, 1), 0xD202EF8D);
        Check.due("sum of four 0", x.sum(0, 4), 0x2144DF1C);
        for (int i = 0; i < 256; i++) {
            x.poke(1003 + i, 255 - i);
            byte[] one = {(byte) (255 - i)};
            Check.due("sum of one " + (255 - i), x.sum(1003 + i, 1), crc(one, 0, 1));
        }
        byte[] image = Check.image(x, 100);
        int[][] ranges = {{0, end}, {1, end - 1}, {0, end - 1}, {end - 1, 1}, {1003, 256}, {1001, 77}, {99, 11}};
        for (int[] one : ranges) {
            Check.due("sum(" + one[0] + ", " + one[1] + ")", x.sum(one[0], one[1]), crc(image, one[0], one[1]));
        }
        int[][] zero = {{100, 0}, {0, 0}, {end, 0}, {100, -1}, {100, Integer.MIN_VALUE}, {-1, 5}, {-1, 0}, {0, end + 1},
            {end - 1, 2}, {end, 1}, {1, end}, {end + 5, 0}, {Integer.MAX_VALUE, 1}, {1, Integer.MAX_VALUE},
            {Integer.MAX_VALUE, Integer.MAX_VALUE}, {Integer.MIN_VALUE, Integer.MIN_VALUE}, {-5, 6}};
        for (int[] one : zero) {
            Check.due("sum(" + one[0] + ", " + one[1] + ")", x.sum(one[0], one[1]), 0);
        }
        Check.finish();
    }

    private static int crc(byte[] bytes, int at, int count) {
        CRC32 crc = new CRC32();
        crc.update(bytes, at, count);
        return (int) crc.getValue();
    }
}
