/** Promise 4: file. */
public final class FileTest {
    public static void main(String[] args) {
        oneToEightCharacters();
        characters();
        zeroBytesInNames();
        sizes();
        seeds();
        named();
        twelveAreThere();
        wrongThenNamedThenFull();
        refusedChangesNothing();
        Check.finish();
    }

    private static void due(Maker x, String name, int size, int seed, int want) {
        Check.due("file " + name + " size " + size + " seed " + seed, x.file(Check.name(name), size, seed, false), want);
    }

    /** "a NAME (1 to 8 characters": none is WRONG, and more than eight a word has not. */
    private static void oneToEightCharacters() {
        Maker x = new Maker(200);
        Check.due("no character", x.file(0, 1, 1, false), BootMaker.WRONG);
        String name = "";
        for (int i = 0; i < 8; i++) {
            name = name + (char) ('A' + i);
            due(x, name, 1, 1, i);
        }
        x.partition(0, 20);
        Check.due("write()", x.write(), 0);
        for (int i = 0; i < 8; i++) {
            Check.dueText("name " + i, x, Check.DIRECTORY + 32 * i, name.substring(0, i + 1) + "           ".substring(i + 1));
        }
    }

    private static boolean isAllowed(int c) {
        return "ABCDEFGHIJKLMNOPQRSTUVWXYZ0123456789_".indexOf(c) >= 0;
    }

    /** "A .. Z, 0 .. 9 and _ )": each byte as the only one, as the first of two and as the last of eight. */
    private static void characters() {
        for (int c = 1; c < 256; c++) {
            int want = isAllowed(c) ? 0 : BootMaker.WRONG;
            Check.due("character " + c, new Maker(100).file(c, 1, 1, false), want);
            Check.due("character " + c + " first", new Maker(100).file(c << 8 | 'A', 1, 1, false), want);
            Check.due("character " + c + " highest", new Maker(100).file((long) c << 56 | 'A', 1, 1, false), want);
            Check.due("character " + c + " last of eight", new Maker(100).file(Check.name("ABCDEFG") << 8 | c, 1, 1, false), want);
            Check.due("character " + c + " in between", new Maker(100).file(Check.name("ABC") << 40 | (long) c << 32 | 'Z', 1, 1, true),
                want);
        }
        for (long bad : new long[] {-1, Long.MIN_VALUE, Long.MAX_VALUE, 1, 0x80, 0xFF41, 0xC141L << 48, 0xFFFFFFFF00000041L}) {
            Check.due("file " + bad, new Maker(100).file(bad, 1, 1, false), BootMaker.WRONG);
        }
    }

    /** "its name is the bytes of the word that are not 0, the highest first" */
    private static void zeroBytesInNames() {
        Maker x = new Maker(200);
        Check.due("AB with zeros", x.file(0x4100000000420000L, 3, 1, false), 0);
        Check.due("AB", x.file(0x4142L, 3, 1, false), BootMaker.NAMED);
        Check.due("AB at the top", x.file(0x4142L << 48, 3, 1, false), BootMaker.NAMED);
        Check.due("BA", x.file(0x4241L, 3, 1, false), 1);
        Check.due("KERNEL at the top", x.file(Check.KERNEL << 16, 8, 1, false), 2);
        Check.due("LOADER with a zero", x.file(0x4C4F414400004552L, 8, 1, false), 3);
        x.partition(0, 20);
        x.address(7);
        Check.due("write", x.write(), 0);
        String[] names = {"AB         ", "BA         ", "KERNEL     ", "LOADER     "};
        for (int i = 0; i < 4; i++) {
            Check.dueText("name " + i + " on the disk", x, Check.DIRECTORY + 32 * i, names[i]);
        }
        Check.due("it is the kernel", x.boot(0), 0);
        Check.due("it is the loader", x.boot(1), 0);
    }

    /** "SIZE bytes (0 .. 9000)" */
    private static void sizes() {
        for (int size : new int[] {-1, -2, 9001, 9002, 65536, Check.MOST, Check.MOST - 510, Check.LEAST, Check.LEAST + 9000}) {
            due(new Maker(200), "A", size, 0, BootMaker.WRONG);
            due(new Maker(200), "KERNEL", size, 255, BootMaker.WRONG);
        }
        Maker x = new Maker(200);
        due(x, "A", 0, 0, 0);
        due(x, "B", 1, 0, 1);
        due(x, "C", 8999, 0, 2);
        due(x, "D", 9000, 0, 3);
        x.partition(0, 80);
        Check.due("write()", x.write(), 0);
        int[] sizes = {0, 1, 8999, 9000};
        for (int i = 0; i < 4; i++) {
            Check.dueLow("size of file " + i, x, Check.DIRECTORY + 32 * i + 28, 4, sizes[i]);
        }
    }

    /** "a SEED (0 .. 255)" */
    private static void seeds() {
        for (int seed : new int[] {-1, -2, -255, 256, 257, 512, Check.MOST, Check.LEAST, Check.LEAST + 1}) {
            due(new Maker(200), "A", 5, seed, BootMaker.WRONG);
            due(new Maker(200), "A", 0, seed, BootMaker.WRONG);
        }
        Maker x = new Maker(200);
        due(x, "A", 2, 0, 0);
        due(x, "B", 2, 1, 1);
        due(x, "C", 2, 254, 2);
        due(x, "D", 2, 255, 3);
        x.partition(0, 20);
        Check.due("write()", x.write(), 0);
        int[][] bytes = {{0, 7, 0}, {1, 8, 0}, {254, 5, 0}, {255, 6, 0}};
        for (int i = 0; i < 4; i++) {
            Check.dueBytes("file " + i, x, Check.cluster(2 + i), bytes[i]);
        }
    }

    /** "NAMED (there is one of that name)" */
    private static void named() {
        Maker x = new Maker(200);
        due(x, "A", 1, 1, 0);
        due(x, "A", 1, 1, BootMaker.NAMED);
        Check.due("another size, seed and way", x.file('A', 9000, 255, true), BootMaker.NAMED);
        due(x, "AA", 1, 1, 1);
        due(x, "AAA", 1, 1, 2);
        due(x, "ABCDEFGH", 1, 1, 3);
        due(x, "ABCDEFGH", 2, 1, BootMaker.NAMED);
        due(x, "ABCDEFGI", 2, 1, 4);
        due(x, "BBCDEFGH", 2, 1, 5);
        due(x, "AA", 0, 0, BootMaker.NAMED);
        x.partition(0, 20);
        x.write();
        due(x, "A", 1, 1, BootMaker.NAMED);
        due(x, "BBCDEFGH", 1, 1, BootMaker.NAMED);
    }

    /** "FULL (twelve are there)" */
    private static void twelveAreThere() {
        Maker x = new Maker(200);
        for (int i = 0; i < 12; i++) {
            Check.due("file " + i, x.file('A' + i, i, i, i % 2 == 0), i);
        }
        due(x, "X", 1, 1, BootMaker.FULL);
        due(x, "Y", 0, 0, BootMaker.FULL);
        due(x, "KERNEL", 9000, 255, BootMaker.FULL);
        x.partition(0, 20);
        Check.due("write()", x.write(), 0);
        Check.dueText("the twelfth", x, Check.DIRECTORY + 32 * 11, "L          ");
        Check.dueEmpty("no thirteenth", x, Check.DIRECTORY + 32 * 12, Check.DIRECTORY + 1024);
        due(x, "X", 1, 1, BootMaker.FULL);
    }

    private static void wrongThenNamedThenFull() {
        Maker x = new Maker(200);
        for (int i = 0; i < 12; i++) {
            Check.due("file " + i, x.file('A' + i, i, i, false), i);
        }
        due(x, "A", 1, 1, BootMaker.NAMED);
        due(x, "L", 1, 1, BootMaker.NAMED);
        due(x, "a", 1, 1, BootMaker.WRONG);
        due(x, "A", 9001, 1, BootMaker.WRONG);
        due(x, "A", 1, 256, BootMaker.WRONG);
        due(x, "X", -1, 1, BootMaker.WRONG);
        due(x, "X", 1, -1, BootMaker.WRONG);
    }

    /** A refused call leaves the files: what is written is what would have been written without it. */
    private static void refusedChangesNothing() {
        Maker x = new Maker(200);
        Model model = new Model(200);
        x.partition(0, 40);
        model.partition(0, 40);
        String[] names = {"A", "a", "KERNEL", "KERNEL", "A", "B", "", "C", "C", "D", "E"};
        int[][] values = {{600, 1}, {600, 1}, {900, 2}, {8, 99}, {0, 0}, {9001, 3}, {1, 1}, {5, 256}, {5, 255}, {-1, 0}, {513, 4}};
        for (int i = 0; i < names.length; i++) {
            long name = Check.name(names[i]);
            boolean scattered = i % 3 == 0;
            int want = model.file(name, values[i][0], values[i][1], scattered);
            Check.due("file " + i, x.file(name, values[i][0], values[i][1], scattered), want);
            Check.due("write()", x.write(), model.write());
            Check.dueDisk("after file " + i, x, model);
        }
        Check.due("four in the end", model.files.size(), 4);
    }
}
