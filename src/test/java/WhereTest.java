/** Promise 3: where. */
public final class WhereTest {
    public static void main(String[] args) {
        BootMaker x = new BootMaker(300);
        x.partition(1, 21);
        x.partition(0, 33);
        int[][] want = {{40, 21, 1}, {64, 33, 0}};
        for (int k = 0; k < 2; k++) {
            for (int what = 0; what < 3; what++) {
                Check.due("where(" + k + ", " + what + ")", x.where(k, what), want[k][what]);
            }
        }
        int[][] none = {{2, 0}, {3, 1}, {4, 0}, {-1, 0}, {0, 3}, {0, -1}, {1, Integer.MAX_VALUE}, {1, Integer.MIN_VALUE},
            {Integer.MAX_VALUE, 0}, {Integer.MIN_VALUE, 2}, {-1, -1}};
        for (int[] one : none) {
            Check.due("where(" + one[0] + ", " + one[1] + ")", x.where(one[0], one[1]), BootMaker.NONE);
        }
        x.write();
        Check.due("after writing", x.where(1, 0), 64);
        Check.finish();
    }
}
