/** Promise 5: address. */
public final class AddressTest {
    public static void main(String[] args) {
        BootMaker x = Check.usual();
        toldAddress(x, 4096);
        Check.due("address(-1)", x.address(-1), false);
        Check.due("address(least)", x.address(Integer.MIN_VALUE), false);
        x.write();
        toldAddress(x, 4096);
        Check.due("address(0)", x.address(0), true);
        toldAddress(x, 4096);
        x.write();
        toldAddress(x, 0);
        Check.due("address(0x12345678)", x.address(0x12345678), true);
        x.write();
        toldAddress(x, 0x12345678);
        Check.due("address(most)", x.address(Integer.MAX_VALUE), true);
        x.write();
        toldAddress(x, Integer.MAX_VALUE);
        BootMaker y = new BootMaker(100);
        y.partition(0, 20);
        y.file(Check.KERNEL, 8, 0, false);
        y.write();
        Check.dueText("kernel", y, 45 * 512, "KRNL");
        Check.dueLow("an address that was never told", y, 45 * 512 + 4, 4, 0);
        Check.finish();
    }

    private static void toldAddress(BootMaker x, int want) {
        Check.dueText("kernel", x, Check.cluster(7), "KRNL");
        Check.dueLow("address in the kernel", x, Check.cluster(7) + 4, 4, want);
    }
}
