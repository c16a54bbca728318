/** Promise 4: file. */
public final class FileTest {
    public static void main(String[] args) {
        names();
        zeroBytesInNames();
        sizesAndSeeds();
        full();
        Check.finish();
    }

    private static void names() {
        BootMaker x = new BootMaker(200);
        int number = 0;
        for (String good : new String[] {"A", "Z", "0", "9", "_", "ABCDEFGH", "AZ09_"}) {
            Check.due("file " + good, x.file(Check.name(good), 1, 1, false), number++);
        }
        for (String bad : new String[] {"a", "z", "@", "[", "/", ":", "A.B", "A B", " ", "ABCDEFG ", "-", "^", "`"}) {
            Check.due("file " + bad, x.file(Check.name(bad), 1, 1, false), BootMaker.WRONG);
        }
        for (long bad : new long[] {0, -1, Long.MIN_VALUE, Long.MAX_VALUE, 1, 0x80, 0xFF41, 0xC141L << 48}) {
            Check.due("file " + bad, x.file(bad, 1, 1, false), BootMaker.WRONG);
        }
        Check.due("named again", x.file(Check.name("A"), 5, 5, true), BootMaker.NAMED);
        Check.due("named again, eight characters", x.file(Check.name("ABCDEFGH"), 5, 5, true), BootMaker.NAMED);
        Check.due("wrong comes before named", x.file(Check.name("A"), 9001, 1, false), BootMaker.WRONG);
        Check.due("AA is not A", x.file(Check.name("AA"), 1, 1, false), 7);
    }

    private static void zeroBytesInNames() {
        BootMaker x = new BootMaker(200);
        Check.due("AB with zeros", x.file(0x4100000000420000L, 3, 1, false), 0);
        Check.due("AB", x.file(0x4142L, 3, 1, false), BootMaker.NAMED);
        Check.due("AB at the top", x.file(0x4142L << 48, 3, 1, false), BootMaker.NAMED);
        Check.due("BA", x.file(0x4241L, 3, 1, false), 1);
        x.partition(0, 20);
        Check.due("write", x.write(), 0);
        Check.dueText("its name on the disk", x, 43 * 512, "AB         ");
        Check.dueText("the other's name", x, 43 * 512 + 32, "BA         ");
    }

    private static void sizesAndSeeds() {
        BootMaker x = new BootMaker(200);
        int[][] wrong = {{-1, 0}, {9001, 0}, {0, -1}, {0, 256}, {Integer.MAX_VALUE, 0}, {Integer.MIN_VALUE, 0},
            {5, Integer.MAX_VALUE}, {5, Integer.MIN_VALUE}};
        for (int[] one : wrong) {
            Check.due("size " + one[0] + " seed " + one[1], x.file(65, one[0], one[1], false), BootMaker.WRONG);
        }
        Check.due("the least", x.file(65, 0, 0, false), 0);
        Check.due("the most", x.file(66, 9000, 255, true), 1);
    }

    private static void full() {
        BootMaker x = new BootMaker(200);
        for (int i = 0; i < 12; i++) {
            Check.due("file " + i, x.file('A' + i, i, i, false), i);
        }
        Check.due("a thirteenth", x.file('X', 1, 1, false), BootMaker.FULL);
        Check.due("a thirteenth that is named", x.file('A', 1, 1, false), BootMaker.NAMED);
        Check.due("a thirteenth that is wrong", x.file('a', 1, 1, false), BootMaker.WRONG);
    }
}
