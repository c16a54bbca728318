import java.util.Random;

/** All promises: random runs of calls answer what the model answers; the seeds are fixed. */
public final class RandomRunsTest {
    private static final String[] NAMES = {"KERNEL", "LOADER", "A", "B", "DATA", "FILE_001", "X9", "KERNEL2", "Q", "R", "S", "T",
        "U", "V", "W"};
    private static final int[] ODD = {0, 1, -1, 2, 255, 256, 511, 512, 65535, 65536, Integer.MAX_VALUE, Integer.MIN_VALUE};
    private static final int STEPS = 80, MOST_CHANGES_IN_A_STEP = 20;

    private final Random random;
    private final Maker x;
    private final Model model;
    private final String run;
    private final int[] reasons;

    private RandomRunsTest(int seed, int[] reasons) {
        random = new Random(seed);
        int n = random.nextInt(8) == 0 ? ODD[random.nextInt(ODD.length)] : 100 + random.nextInt(501);
        x = new Maker(n);
        model = new Model(n);
        run = "run " + seed + " (n " + n + ")";
        this.reasons = reasons;
    }

    public static void main(String[] args) {
        int[] reasons = new int[10];
        int runs = args.length > 0 ? Integer.parseInt(args[0]) : 1000;
        for (int seed = 0; seed < runs; seed++) {
            new RandomRunsTest(seed, reasons).go();
        }
        for (int reason = 0; reason < 10; reason++) {
            Check.due("a run came upon reason " + reason, reasons[reason] > 0, true);
        }
        Check.finish();
    }

    private void go() {
        plan();
        writeAndCompare();
        for (int i = 0; i < STEPS && x.changes() + MOST_CHANGES_IN_A_STEP < Maker.MOST_CHANGES; i++) {
            step();
        }
        Check.dueDisk(run, x, model);
        compareMemory();
    }

    private void plan() {
        boolean small = random.nextInt(3) == 0;
        int parts = random.nextInt(5);
        for (int i = 0; i < parts; i++) {
            partition(random.nextInt(3) == 0 ? 1 : 0, small ? 8 + random.nextInt(12) : 8 + random.nextInt(150));
        }
        int files = random.nextInt(14);
        for (int i = 0; i < files; i++) {
            int size = random.nextInt(4) == 0 ? random.nextInt(20) : random.nextInt(small ? 1200 : 9001);
            file(Check.name(NAMES[random.nextInt(i < 3 ? 2 : NAMES.length)]), size);
        }
        address(random.nextInt(random.nextInt(4) == 0 ? 70000 : 56000));
    }

    private void partition(int sort, int sectors) {
        due("partition(" + sort + ", " + sectors + ")", x.partition(sort, sectors), model.partition(sort, sectors));
        for (int k = -1; k < 5; k++) {
            for (int what = -1; what < 4; what++) {
                due("where(" + k + ", " + what + ")", x.where(k, what), model.where(k, what));
            }
        }
    }

    private void file(long name, int size) {
        int seed = random.nextInt(256);
        boolean scattered = random.nextBoolean();
        due("file(" + name + ", " + size + ")", x.file(name, size, seed, scattered), model.file(name, size, seed, scattered));
    }

    private void address(int at) {
        Check.due(run + ": address(" + at + ")", x.address(at), model.address(at));
    }

    private void writeAndCompare() {
        due("write()", x.write(), model.write());
        Check.dueDisk(run, x, model);
    }

    /** The bytes round both ends of the kernel, and some others. */
    private void compareMemory() {
        int address = Math.max(0, model.booted(2)), end = address + Math.max(0, model.booted(3));
        for (int i = -4; i < 12; i++) {
            memory(address + i);
            memory(end + i);
            memory(random.nextInt(65536));
            memory(address + random.nextInt(Math.max(1, end - address)));
        }
    }

    private void memory(int at) {
        due("memory(" + at + ")", x.memory(at), model.memory(at));
    }

    private void step() {
        switch (random.nextInt(14)) {
            case 0: partition(number(2), number(40)); break;
            case 1: file(random.nextLong(), number(100)); break;
            case 2: address(number(70000)); break;
            case 3: if (random.nextInt(3) == 0) { writeAndCompare(); } break;
            case 4: case 5: case 6: poke(telling(), random.nextBoolean() ? random.nextInt(3) : number(256)); break;
            case 7: poke(number(model.disk.length), number(256)); break;
            case 8: sum(number(model.disk.length), number(random.nextInt(3) == 0 ? 20000 : 40)); break;
            case 9: seal(random.nextBoolean() ? 1 : model.n - 1); break;
            case 10: sealLoader(); break;
            default: boot(random.nextInt(20) == 0 ? number(3) : random.nextInt(2)); break;
        }
    }

    private int number(int bound) {
        return random.nextInt(6) == 0 ? ODD[random.nextInt(ODD.length)] : random.nextInt(bound + 1);
    }

    /** An address where a byte tells the firmware something. */
    private int telling() {
        int b = 40 * 512;
        for (int k = 0; k < model.parts.size(); k++) {
            if (model.parts.get(k).sort() == 0) {
                b = model.parts.get(k).first() * 512;
                break;
            }
        }
        int f = Math.max(1, model.byteAt(b + 22));
        switch (random.nextInt(9)) {
            case 0: return 64 + random.nextInt(60);
            case 1: return random.nextInt(4) == 0 ? (random.nextBoolean() ? 450 : 510 + random.nextInt(2)) : 64;
            case 2: return (random.nextBoolean() ? 1 : model.n - 1) * 512 + random.nextInt(92);
            case 3: return (random.nextBoolean() ? 2 : model.n - 33) * 512 + random.nextInt(512);
            case 4: return b + 11 + random.nextInt(13);
            case 5: return b + 512 + random.nextInt(40);
            case 6: return b + (1 + 2 * f) * 512 + random.nextInt(128);
            case 7: return b + (3 + 2 * f) * 512 + random.nextInt(8);
            default: return b + random.nextInt(7000);
        }
    }

    private void poke(int at, int value) {
        due("poke(" + at + ", " + value + ")", x.poke(at, value), model.poke(at, value));
    }

    private void pokeLow4(int at, int value) {
        for (int i = 0; i < 4; i++) {
            poke(at + i, value >>> 8 * i);
        }
    }

    private void sum(int at, int count) {
        due("sum(" + at + ", " + count + ")", x.sum(at, count), model.sum(at, count));
    }

    private void seal(int sector) {
        int at = sector * 512;
        pokeLow4(at + 88, model.sum(model.byteAt(at + 72) * 512, 16384));
        pokeLow4(at + 16, 0);
        pokeLow4(at + 16, model.sum(at, 92));
    }

    /** A loader told anew: one run, of what lies in the disk there. */
    private void sealLoader() {
        int sector = model.byteAt(65);
        int size = 8 + random.nextInt(600);
        poke(64, 1);
        poke(69, 1 + random.nextInt(2));
        pokeLow4(71, size);
        pokeLow4(75, model.sum(sector * 512, size));
    }

    private void boot(int mode) {
        int reason = model.boot(mode);
        due("boot(" + mode + ")", x.boot(mode), reason);
        if (reason >= 0) {
            reasons[reason]++;
        }
        for (int what = -1; what < 5; what++) {
            due("booted(" + what + ")", x.booted(what), model.booted(what));
        }
        memory(random.nextInt(65536));
    }

    private void due(String call, int got, int want) {
        Check.due(run + ": " + call, got, want);
    }
}
