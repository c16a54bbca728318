/** Promise 5: address. */
public final class AddressTest {
    public static void main(String[] args) {
        told();
        belowZero();
        neverTold();
        onlyTheKernelTellsIt();
        takesHoldWithWriting();
        Check.finish();
    }

    private static void dueTold(String what, Maker x, int want) {
        Check.dueText(what, x, Check.cluster(7), "KRNL");
        Check.dueLow(what + ": address in the kernel", x, Check.cluster(7) + 4, 4, want);
    }

    /** "The address that the kernel's file tells", LOW4 */
    private static void told() {
        for (int at : new int[] {0, 1, 255, 256, 65535, 65536, 0x12345678, Check.MOST - 1, Check.MOST}) {
            Maker x = Check.planned();
            Check.due("address(" + at + ")", x.address(at), true);
            x.write();
            dueTold("address(" + at + ")", x, at);
        }
    }

    /** "false below 0", and the address stays */
    private static void belowZero() {
        for (int at : new int[] {-1, -2, -65536, Check.LEAST + 1, Check.LEAST}) {
            Maker x = Check.planned();
            Check.due("address(" + at + ")", x.address(at), false);
            x.write();
            dueTold("after address(" + at + ")", x, 4096);
            Maker y = new Maker(100);
            Check.due("address(" + at + ")", y.address(at), false);
            dueZero(y);
        }
    }

    private static void neverTold() {
        dueZero(new Maker(100));
    }

    private static void dueZero(Maker y) {
        y.partition(0, 20);
        y.file(Check.KERNEL, 8, 0, false);
        y.write();
        Check.dueText("kernel", y, Check.cluster(2), "KRNL");
        Check.dueLow("an address that was never told", y, Check.cluster(2) + 4, 4, 0);
    }

    private static void onlyTheKernelTellsIt() {
        Maker x = Check.planned();
        x.address(0x01020304);
        x.write();
        Check.dueBytes("the loader tells B", x, Check.cluster(2), 'L', 'O', 'A', 'D', 40, 0, 0, 0);
        Check.dueBytes("other files tell nothing", x, Check.cluster(3), 9, 16, 23, 30, 37, 44, 51, 58);
    }

    private static void takesHoldWithWriting() {
        Maker x = Check.usual();
        Check.due("address(0)", x.address(0), true);
        dueTold("before writing", x, 4096);
        x.write();
        dueTold("after writing", x, 0);
        x.address(5);
        x.address(6);
        x.address(-1);
        x.write();
        dueTold("the latest that was taken", x, 6);
    }
}
