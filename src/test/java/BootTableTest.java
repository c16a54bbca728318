import java.util.zip.CRC32;

/** Promise 10, mode 0: reason 3, each thing that makes a header good, and reason 4, the boot partition's entry. */
public final class BootTableTest {
    private static final int[] HEADERS = {1, 159};

    public static void main(String[] args) {
        firstGoodIsUsed();
        fieldsThatCount();
        fieldsThatDoNot();
        sumOfTheHeader();
        sumOfTheEntries();
        entriesInTheDisk();
        entriesNotInTheDisk();
        numbersCutToTheirLowHalf();
        entriesElsewhere();
        firstAndLastSector();
        bootSort();
        firstSuchEntry();
        entriesOfTheCopy();
        Check.finish();
    }

    /** Boots with the other header spoiled: this one is used, or none. */
    private static void dueGood(String what, Maker x, int header, boolean good) {
        x.poke((160 - header) * 512, 0);
        BootTest.due(what + " in header " + header, x, 0, good ? 0 : 3);
        Check.due(what + " in header " + header + ": booted(0)", x.booted(0), good ? header == 1 ? 1 : 2 : 0);
    }

    /** "neither the header in sector 1 nor the one in sector N - 1 is GOOD"; "the first that is good is used" */
    private static void firstGoodIsUsed() {
        for (int spoiled = 0; spoiled < 4; spoiled++) {
            Maker x = Check.usual();
            for (int i = 0; i < 2; i++) {
                if ((spoiled >> i & 1) == 1) {
                    x.poke(HEADERS[i] * 512, 0);
                }
            }
            BootTest.due("spoiled " + spoiled, x, 0, spoiled == 3 ? 3 : 0);
            Check.due("spoiled " + spoiled + ": booted(0)", x.booted(0), spoiled == 3 ? 0 : spoiled == 1 ? 2 : 1);
        }
        for (int n : new int[] {100, 101, 599, 600}) {
            Maker x = new Maker(n);
            x.partition(0, 8);
            x.file(Check.KERNEL, 8, 0, false);
            x.write();
            x.poke(512 + 16, x.byteAt(512 + 16) ^ 1);
            BootTest.due("the copy of " + n, x, 0, 0);
            Check.due("the copy of " + n, x.booted(0), 2);
            x.poke((n - 1) * 512 + 16, x.byteAt((n - 1) * 512 + 16) ^ 1);
            BootTest.due("none of " + n, x, 0, 3);
        }
    }

    /** "its eight bytes at 0, 12, the sum, its own sector, 80 and 84 are as above": each byte of each, the sum being right */
    private static void fieldsThatCount() {
        for (int header : HEADERS) {
            for (int i = 0; i < 88; i++) {
                if (i < 8 || i >= 12 && i < 16 || i >= 24 && i < 32 || i >= 80) {
                    for (int bit : new int[] {1, 128}) {
                        Maker x = Check.usual();
                        int at = header * 512 + i;
                        x.poke(at, x.byteAt(at) ^ bit);
                        Check.sealHeader(x, header);
                        dueGood("byte " + i + " changed by " + bit, x, header, false);
                    }
                }
            }
        }
        long[][] numbers = {{12, 4, 91}, {12, 4, 93}, {12, 4, 92}, {80, 4, 127}, {80, 4, 129}, {80, 4, 128}, {84, 4, 127},
            {84, 4, 129}, {84, 4, 128}, {24, 8, 0}, {24, 8, 2}, {24, 8, 158}, {24, 8, 160}, {24, 8, -1}};
        for (long[] one : numbers) {
            for (int header : HEADERS) {
                Maker x = Check.usual();
                Check.pokeLow(x, header * 512 + (int) one[0], (int) one[1], one[2]);
                Check.sealHeader(x, header);
                dueGood(one[2] + " at " + one[0], x, header, one[2] == 92 || one[2] == 128);
            }
        }
        // Each has its own sector there, not the other's.
        for (int header : HEADERS) {
            Maker x = Check.usual();
            Check.pokeLow(x, header * 512 + 24, 8, 160 - header);
            Check.sealHeader(x, header);
            dueGood("the other's sector", x, header, false);
        }
    }

    /** What is not among them: 8, 20, 32 and from there up to the place of the entries, and all behind the 92 bytes. */
    private static void fieldsThatDoNot() {
        for (int header : HEADERS) {
            for (int i = 8; i < 72; i++) {
                if (i < 12 || i >= 20 && i < 24 || i >= 32) {
                    Maker x = Check.usual();
                    x.poke(header * 512 + i, 200);
                    Check.sealHeader(x, header);
                    dueGood("byte " + i, x, header, true);
                }
            }
            for (int i : new int[] {92, 93, 255, 256, 510, 511}) {
                Maker x = Check.usual();
                x.poke(header * 512 + i, 200);
                dueGood("byte " + i, x, header, true);
            }
        }
    }

    /** "16 LOW4 the sum of its first 92 bytes, these four being 0": each of them counts */
    private static void sumOfTheHeader() {
        for (int header : HEADERS) {
            for (int i = 0; i < 92; i++) {
                Maker x = Check.usual();
                int at = header * 512 + i;
                x.poke(at, x.byteAt(at) ^ 4);
                dueGood("byte " + i + " unsealed", x, header, false);
            }
            Maker y = Check.usual();
            Check.pokeLow(y, header * 512 + 16, 4, 0);
            dueGood("a sum of 0", y, header, false);
            Maker z = Check.usual();
            Check.pokeLow(z, header * 512 + 16, 4, z.sum(header * 512, 92));
            dueGood("the sum with itself in it", z, header, false);
        }
    }

    /** "their sum is right": LOW4 at 88, over 16384 bytes, the first and the last of them too */
    private static void sumOfTheEntries() {
        int[][] tables = {{1, 2}, {159, 127}};
        for (int[] one : tables) {
            for (int i = 88; i < 92; i++) {
                Maker x = Check.usual();
                int at = one[0] * 512 + i;
                x.poke(at, x.byteAt(at) ^ 16);
                Check.sealHeader(x, one[0]);
                dueGood("byte " + i, x, one[0], false);
            }
            for (int i : new int[] {0, 1, 127, 128, 255, 256, 511, 512, 5000, 16255, 16256, 16382, 16383}) {
                Maker x = Check.usual();
                int at = one[1] * 512 + i;
                x.poke(at, x.byteAt(at) ^ 16);
                dueGood("entries' byte " + i, x, one[0], false);
            }
            Maker y = Check.usual();
            y.poke(one[1] * 512 - 1, 1);
            dueGood("the byte before the entries", one[0] == 1 ? Check.usual() : y, one[0], true);
            Maker z = Check.usual();
            z.poke(one[1] * 512 + 16384, one[0] == 1 ? 1 : z.byteAt(one[1] * 512 + 16384));
            dueGood("the byte behind the entries", z, one[0], true);
        }
    }

    /** A usual disk whose first header tells of entries that begin at a sector, the only boot entry being the first there. */
    private static Maker entriesAt(int sector) {
        Maker x = Check.usual();
        for (int i = 0; i < 128; i++) {
            x.poke(sector * 512 + i, x.byteAt(1024 + i));
        }
        Check.pokeLow(x, 512 + 72, 8, sector);
        Check.seal(x, 1);
        return x;
    }

    /** "its entries lie in the disk": 32 sectors, up to the last one */
    private static void entriesInTheDisk() {
        for (int sector : new int[] {2, 3, 33, 100, 126, 127}) {
            dueGood("entries at " + sector, entriesAt(sector), 1, true);
        }
        // The last 32 sectors have the copy's header in them, which must be spoiled before the sum is made.
        Maker x = Check.usual();
        x.poke(159 * 512, 0);
        for (int i = 0; i < 128; i++) {
            x.poke(128 * 512 + i, x.byteAt(1024 + i));
        }
        Check.pokeLow(x, 512 + 72, 8, 128);
        Check.seal(x, 1);
        dueGood("entries that end with the disk", x, 1, true);
        for (int sector : new int[] {0, 1}) {
            Maker y = Check.usual();
            y.poke(512, 0);
            Check.pokeLow(y, 159 * 512 + 72, 8, sector);
            Check.seal(y, 159);
            dueGood("entries that begin at " + sector, y, 159, true);
        }
    }

    /** Entries that are not all in the disk, with the sum that they would have if the bytes behind its end were 0 */
    private static void entriesNotInTheDisk() {
        for (int sector : new int[] {129, 130, 158, 159, 160, 161, 200, 1 << 20, Check.MOST}) {
            Maker x = Check.usual();
            x.poke(159 * 512, 0);
            for (int i = 0; i < 128 && sector < 159; i++) {
                x.poke(sector * 512 + i, x.byteAt(1024 + i));
            }
            dueGood("entries at " + sector, tellEntries(x, 1, sector), 1, false);
        }
    }

    /** Places of which only the low half, or the number without its sign, is in the disk */
    private static void numbersCutToTheirLowHalf() {
        for (long sector : new long[] {1L << 32 | 2, 1L << 31 | 2, 1L << 62 | 2, Long.MIN_VALUE | 2, -1, -2, Long.MIN_VALUE,
            Long.MAX_VALUE, 1L << 55 | 2, 0xFFFFFFFF00000002L, 258, 1 << 16 | 2, 1L << 23 | 2, 1L << 24 | 2}) {
            for (int header : HEADERS) {
                Maker x = Check.usual();
                x.poke((160 - header) * 512, 0);
                dueGood("entries at " + sector, tellEntries(x, header, sector), header, false);
            }
        }
    }

    /** Tells a header where entries are, with the sum of what lies where the low half of the number says. */
    private static Maker tellEntries(Maker x, int header, long sector) {
        CRC32 crc = new CRC32();
        for (int i = 0; i < 16384; i++) {
            crc.update(Math.max(0, x.byteAt((int) sector * 512 + i)));
        }
        Check.pokeLow(x, header * 512 + 72, 8, sector);
        Check.pokeLow(x, header * 512 + 88, 4, crc.getValue());
        Check.sealHeader(x, header);
        return x;
    }

    /** The entries that a header tells of are the ones that are read, not those at the usual place. */
    private static void entriesElsewhere() {
        Maker x = entriesAt(100);
        Check.pokeLow(x, 100 * 512 + 32, 8, 41);
        Check.seal(x, 1);
        BootTest.due("entries at 100", x, 0, 5);
        Check.due("booted(0)", x.booted(0), 1);
        Check.due("booted(1)", x.booted(1), 41);
    }

    private static void dueSpan(long first, long last, int want) {
        Maker x = Check.usual();
        Check.pokeBootEntry(x, 0, first, last);
        Check.seal(x, 1);
        BootTest.due("boot partition " + first + " .. " + last, x, 0, want);
        Check.due("booted(0)", x.booted(0), 1);
        Check.due("booted(1)", x.booted(1), want == 4 ? BootMaker.NONE : first);
    }

    /** "with first not above last and last below N"; then "its first sector B" */
    private static void firstAndLastSector() {
        long[][] spans = {{40, 40, 0}, {40, 41, 0}, {40, 39, 4}, {41, 40, 4}, {40, 0, 4}, {40, 158, 0}, {40, 159, 0}, {40, 160, 4},
            {40, 161, 4}, {159, 159, 5}, {160, 160, 4}, {160, 159, 4}, {0, 0, 5}, {0, 159, 5}, {0, 160, 4}, {1, 0, 4}, {39, 79, 5},
            {41, 79, 5}, {40, 79, 0}};
        for (long[] span : spans) {
            dueSpan(span[0], span[1], (int) span[2]);
        }
        long high = Long.MIN_VALUE;
        long[][] large = {{40, 1L << 32}, {40, 1L << 32 | 79}, {40, -1}, {-1, -1}, {-1, 50}, {high, 50}, {high | 40, 79},
            {40, high | 79}, {high | 40, high | 79}, {1L << 32 | 40, 79}, {1L << 31 | 40, 79}, {-40, -30}, {40, 1L << 31 | 79},
            {high, high}, {Long.MAX_VALUE, Long.MAX_VALUE}, {40, Long.MAX_VALUE}, {296, 79}, {1L << 56 | 40, 1L << 56 | 79}};
        for (long[] span : large) {
            dueSpan(span[0], span[1], 4);
        }
        Maker x = new Maker(600);
        x.partition(1, 400);
        x.partition(0, 100);
        x.file(Check.KERNEL, 8, 0, false);
        x.write();
        Check.pokeLow(x, 1024 + 128 + 40, 8, 599);
        Check.seal(x, 1);
        BootTest.due("the last of 600", x, 0, 0);
        Check.pokeLow(x, 1024 + 128 + 40, 8, 600);
        Check.seal(x, 1);
        BootTest.due("behind the last of 600", x, 0, 4);
    }

    /** "none has the boot sort": each of its sixteen bytes */
    private static void bootSort() {
        for (int i = 0; i < 16; i++) {
            for (int bit : new int[] {1, 128}) {
                Maker x = Check.usual();
                x.poke(1024 + i, x.byteAt(1024 + i) ^ bit);
                Check.seal(x, 1);
                BootTest.due("boot sort spoiled at " + i, x, 0, 4);
            }
        }
        for (int i = 16; i < 32; i++) {
            Maker x = Check.usual();
            x.poke(1024 + i, 0);
            x.poke(1024 + 32 + i, 255);
            Check.seal(x, 1);
            BootTest.due("what is no sort and no sector, at " + i, x, 0, 0);
        }
        Maker data = new Maker(100);
        data.partition(1, 20);
        data.write();
        BootTest.due("data alone", data, 0, 4);
    }

    /** "the first such one is the boot partition": of 128 entries, and one that is not such is passed over */
    private static void firstSuchEntry() {
        for (int k : new int[] {1, 2, 3, 4, 63, 126, 127}) {
            Maker x = Check.usual();
            Check.pokeBootEntry(x, 0, 41, 40);
            Check.pokeBootEntry(x, k, 40, 41);
            Check.seal(x, 1);
            BootTest.due("entry " + k, x, 0, 0);
            Maker y = Check.usual();
            Check.pokeBootEntry(y, k, 42, 50);
            Check.seal(y, 1);
            BootTest.due("entry 0, and " + k + " as well", y, 0, 0);
            Check.due("booted(1)", y.booted(1), 40);
            Check.pokeBootEntry(y, 0, 40, 160);
            Check.seal(y, 1);
            BootTest.due("entry " + k + " alone", y, 0, 5);
            Check.due("booted(1)", y.booted(1), 42);
        }
        for (int k : new int[] {-1, 128}) {
            Maker z = Check.usual();
            Check.pokeBootEntry(z, 0, 41, 40);
            Check.pokeBootEntry(z, k, 40, 79);
            Check.seal(z, 1);
            BootTest.due("one before the first entry or behind the last: " + k, z, 0, 4);
            Check.due("booted(0)", z.booted(0), 1);
        }
        Maker second = new Maker(200);
        second.partition(0, 8);
        second.partition(0, 20);
        second.file(Check.KERNEL, 8, 0, false);
        second.write();
        BootTest.due("the first of two", second, 0, 0);
        Check.due("booted(1)", second.booted(1), 40);
        Check.pokeLow(second, 1024 + 40, 8, 39);
        Check.seal(second, 1);
        BootTest.due("the second of two, which is empty", second, 0, 5);
        Check.due("booted(1)", second.booted(1), 48);
    }

    /** "of its entries": those of the header that is used; the other's don't help */
    private static void entriesOfTheCopy() {
        Maker x = Check.usual();
        Check.pokeLow(x, 1024 + 40, 8, 39);
        Check.seal(x, 1);
        BootTest.due("none in the first", x, 0, 4);
        Check.due("booted(0)", x.booted(0), 1);
        x.poke(512, 0);
        BootTest.due("but in the copy", x, 0, 0);
        Check.due("booted(0)", x.booted(0), 2);
        Maker y = Check.usual();
        y.poke(512, 0);
        Check.pokeLow(y, 127 * 512 + 32, 8, 80);
        Check.seal(y, 159);
        BootTest.due("none in the copy", y, 0, 4);
        Check.due("booted(0)", y.booted(0), 2);
        Check.due("booted(1)", y.booted(1), BootMaker.NONE);
    }
}
