/** Promise 11: booted. */
public final class BootedTest {
    private static final int NONE = BootMaker.NONE;

    public static void main(String[] args) {
        BootMaker x = Check.usual();
        due("before any", x, NONE, NONE, NONE, NONE);
        Check.due("boot(3)", Check.boot(x, 3), Check.ILLEGAL);
        due("before any", x, NONE, NONE, NONE, NONE);
        booted(x, 0, 0, 1, 40, 4096, 1500);
        booted(x, 1, 0, 0, 40, 4096, 1500);
        booted(x, 0, 0, 1, 40, 4096, 1500);
        Check.due("boot(-1)", Check.boot(x, -1), Check.ILLEGAL);
        due("an illegal mode changes nothing", x, 1, 40, 4096, 1500);
        x.address(70000);
        x.write();
        due("writing changes nothing", x, 1, 40, 4096, 1500);
        booted(x, 0, 8, 1, 40, NONE, NONE);
        booted(x, 1, 8, 0, 40, NONE, NONE);
        x.poke(512, 0);
        booted(x, 0, 8, 2, 40, NONE, NONE);
        x.poke(Check.DIRECTORY + 64 + 26, 1);
        booted(x, 0, 7, 2, 40, NONE, NONE);
        x.poke(Check.DIRECTORY + 64, 1);
        booted(x, 0, 6, 2, 40, NONE, NONE);
        x.poke(40 * 512 + 13, 9);
        booted(x, 0, 5, 2, 40, NONE, NONE);
        booted(x, 1, 5, 0, 40, NONE, NONE);
        x.poke(64, 0);
        booted(x, 1, 9, 0, NONE, NONE, NONE);
        x.poke(127 * 512, 0);
        Check.seal(x, 159);
        booted(x, 0, 4, 2, NONE, NONE, NONE);
        x.poke(159 * 512, 0);
        booted(x, 0, 3, 0, NONE, NONE, NONE);
        x.poke(450, 0);
        booted(x, 0, 2, 0, NONE, NONE, NONE);
        x.poke(510, 0);
        booted(x, 0, 1, 0, NONE, NONE, NONE);
        booted(x, 1, 1, 0, NONE, NONE, NONE);
        secondPartition();
        Check.finish();
    }

    private static void secondPartition() {
        BootMaker x = new BootMaker(600);
        x.partition(1, 300);
        x.partition(0, 100);
        x.file(Check.LOADER, 8, 0, false);
        x.file(Check.KERNEL, 8, 0, false);
        x.write();
        booted(x, 0, 0, 1, 344, 0, 8);
        booted(x, 1, 0, 0, 344, 0, 8);
        for (int i = 0; i < 512; i++) {
            x.poke(512 + i, 0);
        }
        booted(x, 0, 0, 2, 344, 0, 8);
    }

    private static void booted(BootMaker x, int mode, int reason, int... want) {
        Check.due("boot(" + mode + ")", Check.boot(x, mode), reason);
        due("reason " + reason, x, want);
    }

    private static void due(String when, BootMaker x, int... want) {
        for (int what = 0; what < 4; what++) {
            Check.due(when + ": booted(" + what + ")", x.booted(what), want[what]);
        }
        for (int what : new int[] {-1, 4, Integer.MAX_VALUE, Integer.MIN_VALUE}) {
            Check.due(when + ": booted(" + what + ")", x.booted(what), NONE);
        }
    }
}
