/** Promise 12: memory. */
public final class MemoryTest {
    public static void main(String[] args) {
        noSuchAddress();
        zeroBeforeAnyBoot();
        kernelInMemory();
        othersAreZero();
        atBothEnds();
        fillsTheMemory();
        zeroWhenItFailed();
        behindTheLatestBoot();
        Check.finish();
    }

    /** "NoSuchElementException: no such address", in any state */
    private static void noSuchAddress() {
        Maker booted = Check.usual();
        booted.boot(0);
        Maker failed = Check.usual();
        failed.poke(510, 0);
        failed.boot(0);
        for (Maker x : new Maker[] {new Maker(100), new Maker(600), Check.planned(), Check.usual(), booted, failed}) {
            for (int at : new int[] {-1, -2, -65536, 65536, 65537, 70000, 131072, Check.MOST, Check.MOST - 1, Check.LEAST,
                Check.LEAST + 1}) {
                Check.due("memory(" + at + ")", x.memory(at), Maker.NO_SUCH);
            }
            Check.due("memory(0)", x.memory(0), 0);
            Check.due("memory(65535)", x.memory(65535), 0);
        }
    }

    private static void zeroBeforeAnyBoot() {
        dueZero("before any boot", Check.usual());
    }

    private static void dueZero(String what, Maker x) {
        for (int i = 0; i < 65536; i++) {
            Check.due(what + ": memory(" + i + ")", x.memory(i), 0);
        }
    }

    /** The usual disk's kernel in memory, and nothing else. */
    private static void dueKernel(Maker x, int address) {
        int[] head = {'K', 'R', 'N', 'L', address & 255, address >> 8 & 255, 0, 0};
        for (int i = 0; i < 65536; i++) {
            int k = i - address;
            int want = k < 0 || k >= 1500 ? 0 : k < 8 ? head[k] : (40 + 7 * k + k / 200) % 256;
            Check.due("kernel at " + address + ": memory(" + i + ")", x.memory(i), want);
        }
    }

    /** "the kernel's bytes are in memory from its address on (others are 0)" */
    private static void kernelInMemory() {
        for (int mode = 0; mode < 2; mode++) {
            Maker x = Check.usual();
            Check.due("boot(" + mode + ")", x.boot(mode), 0);
            dueKernel(x, 4096);
        }
    }

    /** "(others are 0)": those round the kernel too, though on the disk something lies there */
    private static void othersAreZero() {
        Maker x = new Maker(100);
        x.partition(0, 20);
        x.file('A', 512, 1, false);
        x.file(Check.KERNEL, 600, 2, false);
        x.file('B', 512, 3, false);
        x.address(1000);
        x.write();
        x.poke(Check.cluster(3) - 1, 77);
        x.poke(Check.cluster(3) + 600, 88);
        Check.due("boot(0)", x.boot(0), 0);
        Check.due("memory(999)", x.memory(999), 0);
        Check.due("memory(1000)", x.memory(1000), 'K');
        Check.due("memory(1599)", x.memory(1599), (2 + 7 * 599 + 2) % 256);
        Check.due("memory(1600)", x.memory(1600), 0);
    }

    /** From address 0 on, and up to the last byte of the memory; "0 .. 255": bytes of 128 and more are not below 0 */
    private static void atBothEnds() {
        for (int address : new int[] {0, 1, 65536 - 1501, 65536 - 1500}) {
            Maker x = Check.planned();
            x.address(address);
            x.write();
            Check.due("boot(0)", x.boot(0), 0);
            dueKernel(x, address);
        }
        Maker y = Check.planned();
        y.address(65536 - 1499);
        y.write();
        Check.due("boot(0)", y.boot(0), 8);
        Check.due("memory(65535)", y.memory(65535), 0);
        for (int at : new int[] {0, 65536 - 8}) {
            Maker z = new Maker(100);
            z.partition(0, 8);
            z.file(Check.KERNEL, 8, 0, false);
            z.address(at);
            z.write();
            Check.due("boot(0)", z.boot(0), 0);
            int[] bytes = {'K', 'R', 'N', 'L', at & 255, at >> 8, 0, 0};
            for (int i = 0; i < 8; i++) {
                Check.due("memory(" + (at + i) + ")", z.memory(at + i), bytes[i]);
            }
        }
    }

    /** A kernel as large as the memory, from clusters that are neighbours */
    private static void fillsTheMemory() {
        Maker x = BootTest.disk65536();
        Check.due("boot(0)", x.boot(0), 0);
        for (int i = 0; i < 65536; i++) {
            Check.due("memory(" + i + ")", x.memory(i), x.byteAt(Check.cluster(2) + i));
        }
        Check.due("memory(65536)", x.memory(65536), Maker.NO_SUCH);
    }

    /** "(0 when it failed)": nothing of an earlier boot stays, nor of the kernel that was not good */
    private static void zeroWhenItFailed() {
        int[][] pokes = {{510, 0, 0, 1}, {450, 0, 0, 2}, {64, 0, 1, 9}, {Check.VOLUME + 13, 0, 0, 5}, {Check.KERNEL_ENTRY, 'X', 1, 6},
            {Check.KERNEL_ENTRY + 26, 8, 0, 7}, {Check.cluster(7), 'X', 1, 8}, {Check.cluster(7) + 6, 1, 0, 8}};
        for (int[] one : pokes) {
            Maker x = Check.usual();
            Check.due("boot(0)", x.boot(0), 0);
            Check.due("memory(4096)", x.memory(4096), 'K');
            x.poke(one[0], one[1]);
            Check.due("boot(" + one[2] + ")", x.boot(one[2]), one[3]);
            dueZero("reason " + one[3], x);
        }
    }

    /** "the memory behind the latest boot": neither poke, write, address nor a boot in no such mode changes it */
    private static void behindTheLatestBoot() {
        Maker x = Check.usual();
        Check.due("boot(0)", x.boot(0), 0);
        x.poke(Check.cluster(7) + 100, 1);
        x.address(9);
        x.file('Z', 1, 1, false);
        x.write();
        Check.due("boot(2)", x.boot(2), Maker.ILLEGAL);
        Check.due("boot(-1)", x.boot(-1), Maker.ILLEGAL);
        dueKernel(x, 4096);
        Check.due("boot(1)", x.boot(1), 0);
        dueKernel(x, 9);
        x.poke(510, 0);
        Check.due("boot(1)", x.boot(1), 1);
        Check.due("memory(9)", x.memory(9), 0);
        x.poke(510, 85);
        Check.due("boot(0)", x.boot(0), 0);
        dueKernel(x, 9);
    }
}
