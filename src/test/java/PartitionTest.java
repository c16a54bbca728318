/** Promise 2: partition. */
public final class PartitionTest {
    public static void main(String[] args) {
        numbers();
        firstBeginsAt40();
        othersAtMultiplesOf8();
        noSuchSort();
        lessThan8();
        moreThan600();
        fourAreThere();
        doesNotFit();
        laterOnesDoNotFit();
        wrongBeforeFull();
        refusedChangesNothing();
        Check.finish();
    }

    private static void due(Maker x, int sort, int sectors, int want) {
        Check.due("partition(" + sort + ", " + sectors + ")", x.partition(sort, sectors), want);
    }

    /** "A partition more: its number" */
    private static void numbers() {
        for (int sorts = 0; sorts < 16; sorts++) {
            Maker x = new Maker(600);
            for (int k = 0; k < 4; k++) {
                due(x, sorts >> k & 1, 8 + k, k);
            }
        }
    }

    /** "The first begins at sector 40" */
    private static void firstBeginsAt40() {
        for (int sectors : new int[] {8, 9, 16, 27}) {
            for (int sort = 0; sort < 2; sort++) {
                Maker x = new Maker(100);
                due(x, sort, sectors, 0);
                Check.due("where(0, 0)", x.where(0, 0), 40);
            }
        }
    }

    /** "the others at the next multiple of 8 behind the one before" */
    private static void othersAtMultiplesOf8() {
        for (int sectors = 8; sectors <= 33; sectors++) {
            Maker x = new Maker(600);
            int start = 40;
            for (int k = 0; k < 4; k++) {
                due(x, k % 2, sectors, k);
                Check.due(sectors + " sectors: where(" + k + ", 0)", x.where(k, 0), start);
                start += sectors;
                while (start % 8 != 0) {
                    start++;
                }
            }
        }
        Maker y = new Maker(600);
        int[] lengths = {8, 9, 15, 16};
        int[] starts = {40, 48, 64, 80};
        for (int k = 0; k < 4; k++) {
            due(y, k % 2, lengths[k], k);
            Check.due("where(" + k + ", 0)", y.where(k, 0), starts[k]);
        }
    }

    /** "WRONG (no such sort" */
    private static void noSuchSort() {
        Maker x = new Maker(600);
        for (int sort : new int[] {-1, 2, 3, 255, 256, -256, Check.LEAST, Check.LEAST + 1, Check.MOST}) {
            due(x, sort, 8, BootMaker.WRONG);
            due(x, sort, 527, BootMaker.WRONG);
        }
        due(x, 0, 8, 0);
        due(x, 1, 8, 1);
    }

    /** "or less than 8" */
    private static void lessThan8() {
        Maker x = new Maker(600);
        for (int sectors : new int[] {7, 6, 1, 0, -1, -8, -600, Check.LEAST, Check.LEAST + 8}) {
            due(x, 0, sectors, BootMaker.WRONG);
            due(x, 1, sectors, BootMaker.WRONG);
        }
        due(x, 0, 8, 0);
        due(x, 1, 8, 1);
    }

    /** "or more than 600 sectors" */
    private static void moreThan600() {
        for (int n : new int[] {100, 600}) {
            Maker x = new Maker(n);
            for (int sectors : new int[] {601, 602, 1000, 65536, Check.MOST - 40, Check.MOST - 39, Check.MOST}) {
                due(x, 0, sectors, BootMaker.WRONG);
                due(x, 1, sectors, BootMaker.WRONG);
            }
            due(x, 0, 600, BootMaker.FULL);
            due(x, 1, 600, BootMaker.FULL);
            due(x, 0, 599, BootMaker.FULL);
        }
    }

    /** "FULL (four are there" */
    private static void fourAreThere() {
        Maker x = new Maker(600);
        for (int k = 0; k < 4; k++) {
            due(x, 1, 8, k);
        }
        due(x, 1, 8, BootMaker.FULL);
        due(x, 0, 8, BootMaker.FULL);
        due(x, 0, 600, BootMaker.FULL);
        Check.due("where(4, 0)", x.where(4, 0), BootMaker.NONE);
        Check.due("where(3, 0)", x.where(3, 0), 64);
    }

    /** "or it doesn't fit)": "all end at N - 34 at the latest" */
    private static void doesNotFit() {
        int[][] most = {{100, 27}, {101, 28}, {200, 127}, {599, 526}, {600, 527}, {99, 127}, {601, 127}};
        for (int[] one : most) {
            for (int sort = 0; sort < 2; sort++) {
                Maker x = new Maker(one[0]);
                due(x, sort, one[1] + 1, BootMaker.FULL);
                Check.due("nothing was added", x.where(0, 0), BootMaker.NONE);
                due(x, sort, one[1], 0);
                Check.due("how many sectors", x.where(0, 1), one[1]);
                due(x, sort, 8, BootMaker.FULL);
            }
        }
    }

    /** The same for one that begins behind another: 40 .. 70, then from 72 on. */
    private static void laterOnesDoNotFit() {
        Maker x = new Maker(122);
        due(x, 1, 31, 0);
        due(x, 1, 18, BootMaker.FULL);
        due(x, 1, 17, 1);
        // 40 .. 47, 48 .. 55 and 56 .. 63 leave 64, 65 and 66 of 100: too few for eight.
        Maker y = new Maker(100);
        due(y, 0, 8, 0);
        due(y, 0, 8, 1);
        due(y, 0, 8, 2);
        due(y, 0, 8, BootMaker.FULL);
        Maker z = new Maker(105);
        due(z, 0, 24, 0);
        due(z, 0, 8, 1);
        Check.due("it ends at N - 34", z.where(1, 0) + z.where(1, 1) - 1, 105 - 34);
        Maker u = new Maker(104);
        due(u, 0, 24, 0);
        due(u, 0, 8, BootMaker.FULL);
        // The place behind the one before would do, the next multiple of 8 does not.
        Maker v = new Maker(105);
        due(v, 0, 17, 0);
        due(v, 0, 9, BootMaker.FULL);
        due(v, 0, 8, 1);
    }

    private static void wrongBeforeFull() {
        Maker x = new Maker(600);
        for (int k = 0; k < 4; k++) {
            due(x, 1, 8, k);
        }
        due(x, 2, 8, BootMaker.WRONG);
        due(x, -1, 600, BootMaker.WRONG);
        due(x, 0, 7, BootMaker.WRONG);
        due(x, 0, 601, BootMaker.WRONG);
    }

    /** A refused call leaves the plan: what is written is what would have been written without it. */
    private static void refusedChangesNothing() {
        Maker x = new Maker(200);
        Model model = new Model(200);
        int[][] calls = {{2, 8}, {0, 128}, {1, 9}, {0, 7}, {-1, 20}, {0, 601}, {0, 16}, {1, 600}, {1, 100}, {1, 8}, {1, 77},
            {0, 8}, {0, 8}, {1, 8}};
        for (int[] call : calls) {
            due(x, call[0], call[1], model.partition(call[0], call[1]));
            for (int k = -1; k < 5; k++) {
                for (int what = 0; what < 3; what++) {
                    Check.due("where(" + k + ", " + what + ")", x.where(k, what), model.where(k, what));
                }
            }
            Check.due("write()", x.write(), model.write());
            Check.dueDisk("after partition(" + call[0] + ", " + call[1] + ")", x, model);
        }
        Check.due("four in the end", model.parts.size(), 4);
    }
}
