/** Promise 2: partition. */
public final class PartitionTest {
    public static void main(String[] args) {
        numbersAndStarts();
        wrongOnes();
        fullByNumber();
        fullByRoom();
        Check.finish();
    }

    private static void numbersAndStarts() {
        BootMaker x = new BootMaker(600);
        int[] lengths = {8, 9, 15, 16};
        int[] starts = {40, 48, 64, 80};
        for (int i = 0; i < 4; i++) {
            Check.due("partition " + i, x.partition(i % 2, lengths[i]), i);
            Check.due("start of " + i, x.where(i, 0), starts[i]);
        }
    }

    private static void wrongOnes() {
        BootMaker x = new BootMaker(600);
        int[][] wrong = {{-1, 20}, {2, 20}, {0, 7}, {1, 7}, {0, 0}, {0, -8}, {0, 601}, {1, 601}, {7, 601},
            {Integer.MIN_VALUE, 8}, {Integer.MAX_VALUE, 8}, {0, Integer.MAX_VALUE}, {0, Integer.MIN_VALUE}};
        for (int[] one : wrong) {
            Check.due("partition(" + one[0] + ", " + one[1] + ")", x.partition(one[0], one[1]), BootMaker.WRONG);
        }
        Check.due("nothing was added", x.where(0, 0), BootMaker.NONE);
        Check.due("600 sectors are allowed, but do not fit", x.partition(0, 600), BootMaker.FULL);
        Check.due("8 sectors", x.partition(0, 8), 0);
    }

    private static void fullByNumber() {
        BootMaker x = new BootMaker(600);
        for (int i = 0; i < 4; i++) {
            Check.due("partition " + i, x.partition(1, 8), i);
        }
        Check.due("a fifth", x.partition(1, 8), BootMaker.FULL);
        Check.due("a fifth that is wrong", x.partition(2, 8), BootMaker.WRONG);
        Check.due("a fifth that is too short", x.partition(0, 7), BootMaker.WRONG);
        Check.due("four stay", x.where(4, 0), BootMaker.NONE);
    }

    private static void fullByRoom() {
        BootMaker x = new BootMaker(100);
        Check.due("40 .. 67 of 100", x.partition(0, 28), BootMaker.FULL);
        Check.due("nothing was added", x.where(0, 0), BootMaker.NONE);
        Check.due("40 .. 66 of 100", x.partition(0, 27), 0);
        Check.due("none behind it", x.partition(0, 8), BootMaker.FULL);
        BootMaker y = new BootMaker(600);
        Check.due("40 .. 567 of 600", y.partition(1, 528), BootMaker.FULL);
        Check.due("40 .. 566 of 600", y.partition(1, 527), 0);
        BootMaker z = new BootMaker(122);
        Check.due("40 .. 70", z.partition(1, 31), 0);
        Check.due("72 .. 89 of 122", z.partition(1, 18), BootMaker.FULL);
        Check.due("72 .. 88 of 122", z.partition(1, 17), 1);
    }
}
