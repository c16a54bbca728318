/** Promise 3: where. */
public final class WhereTest {
    public static void main(String[] args) {
        beginsSectorsSort();
        noSuchPartition();
        noSuchWhat();
        staysAsPlanned();
        Check.finish();
    }

    private static Maker two() {
        Maker x = new Maker(300);
        x.partition(1, 21);
        x.partition(0, 33);
        return x;
    }

    private static void due(Maker x, int partition, int what, int want) {
        Check.due("where(" + partition + ", " + what + ")", x.where(partition, what), want);
    }

    /** "Where a partition begins (what 0), how many sectors it has (1), its sort (2)" */
    private static void beginsSectorsSort() {
        Maker x = new Maker(600);
        int[][] want = {{40, 21, 1}, {64, 33, 0}, {104, 8, 0}, {112, 455, 1}};
        for (int k = 0; k < 4; k++) {
            Check.due("partition " + k, x.partition(want[k][2], want[k][1]), k);
        }
        for (int k = 0; k < 4; k++) {
            for (int what = 0; what < 3; what++) {
                due(x, k, what, want[k][what]);
            }
        }
    }

    /** "NONE": no such partition. */
    private static void noSuchPartition() {
        for (int what = 0; what < 3; what++) {
            Maker none = new Maker(300);
            for (int k : new int[] {0, 1, 2, 3, 4, -1}) {
                due(none, k, what, BootMaker.NONE);
            }
            for (int k : new int[] {2, 3, 4, 5, -1, -2, 256, Check.LEAST, Check.LEAST + 1, Check.MOST}) {
                due(two(), k, what, BootMaker.NONE);
            }
            Maker four = two();
            four.partition(1, 8);
            four.partition(1, 8);
            four.partition(1, 8);
            for (int k : new int[] {4, 5, -1, Check.LEAST, Check.MOST}) {
                due(four, k, what, BootMaker.NONE);
            }
        }
    }

    /** "NONE": another what. */
    private static void noSuchWhat() {
        for (int what : new int[] {3, 4, -1, -2, 256, Check.LEAST, Check.LEAST + 2, Check.MOST}) {
            for (int k = -1; k < 3; k++) {
                due(two(), k, what, BootMaker.NONE);
            }
        }
    }

    private static void staysAsPlanned() {
        Maker x = two();
        x.write();
        x.poke(1024 + 32, 41);
        x.boot(0);
        due(x, 0, 0, 40);
        due(x, 1, 0, 64);
        due(x, 1, 1, 33);
        due(x, 1, 2, 0);
    }
}
