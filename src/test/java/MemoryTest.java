/** Promise 12: memory. */
public final class MemoryTest {
    public static void main(String[] args) {
        BootMaker x = Check.usual();
        edges(x, 0);
        Check.due("before any boot", Check.memory(x, 4096), 0);
        Check.due("boot(0)", Check.boot(x, 0), 0);
        kernelAt(x, 4096);
        x.poke(Check.cluster(7) + 100, 1);
        kernelAt(x, 4096);
        x.address(65536 - 1500);
        x.write();
        kernelAt(x, 4096);
        Check.due("boot(1)", Check.boot(x, 1), 0);
        kernelAt(x, 65536 - 1500);
        x.address(0);
        x.write();
        Check.due("boot(0)", Check.boot(x, 0), 0);
        kernelAt(x, 0);
        Check.due("boot(5)", Check.boot(x, 5), Check.ILLEGAL);
        kernelAt(x, 0);
        x.poke(510, 0);
        Check.due("a boot that fails", Check.boot(x, 0), 1);
        for (int i = 0; i < 65536; i++) {
            Check.due("memory(" + i + ") behind it", Check.memory(x, i), 0);
        }
        edges(x, 0);
        Check.finish();
    }

    private static void edges(BootMaker x, int want) {
        Check.due("memory(0)", Check.memory(x, 0), want);
        Check.due("memory(65535)", Check.memory(x, 65535), want);
        for (int outside : new int[] {-1, 65536, 70000, Integer.MAX_VALUE, Integer.MIN_VALUE}) {
            Check.due("memory(" + outside + ")", Check.memory(x, outside), Check.NO_SUCH);
        }
    }

    private static void kernelAt(BootMaker x, int address) {
        int[] head = {'K', 'R', 'N', 'L', address & 255, address >> 8 & 255, 0, 0};
        for (int i = 0; i < 65536; i++) {
            int k = i - address;
            int want = k < 0 || k >= 1500 ? 0 : k < 8 ? head[k] : (40 + 7 * k + k / 200) % 256;
            Check.due("memory(" + i + ")", Check.memory(x, i), want);
        }
    }
}
