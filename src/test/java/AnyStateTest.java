import java.util.ArrayList;
import java.util.List;
import java.util.function.ToIntFunction;

/**
 * All promises: "each call holds for arguments at both ends of its type, in any state". In each state every call is made with
 * every such argument; it answers what the model answers, and leaves what the model has.
 */
public final class AnyStateTest {
    private static final int[] ENDS = {Integer.MIN_VALUE, Integer.MIN_VALUE + 1, -1, 0, 1, Integer.MAX_VALUE - 1, Integer.MAX_VALUE};
    private static final long[] LONG_ENDS = {Long.MIN_VALUE, Long.MIN_VALUE + 1, -1, 0, 1, Long.MAX_VALUE - 1, Long.MAX_VALUE, 'A',
        (long) 'A' << 56, 0x5A5A5A5A5A5A5A5AL, Integer.MIN_VALUE, Integer.MAX_VALUE, 0x4B45524E454CL};

    /** Calls that are made on an object in some state. */
    private interface Call {
        void make(Both both);
    }

    /** An object and its model: each call is made on both, and the answers are compared. */
    private static final class Both {
        final Maker x;
        final Model model;
        private final String state;

        Both(int n, String state) {
            x = new Maker(n);
            model = new Model(n);
            this.state = state;
        }

        void due(String call, int got, int want) {
            Check.due(state + ": " + call, got, want);
        }

        void partition(int sort, int sectors) {
            due("partition(" + sort + ", " + sectors + ")", x.partition(sort, sectors), model.partition(sort, sectors));
        }

        void where(int k, int what) {
            due("where(" + k + ", " + what + ")", x.where(k, what), model.where(k, what));
        }

        void file(long name, int size, int seed, boolean scattered) {
            due("file(" + name + ", " + size + ", " + seed + ")", x.file(name, size, seed, scattered),
                model.file(name, size, seed, scattered));
        }

        void address(int at) {
            due("address(" + at + ")", x.address(at) ? 1 : 0, model.address(at) ? 1 : 0);
        }

        void write() {
            due("write()", x.write(), model.write());
        }

        void byteAt(int at) {
            due("byteAt(" + at + ")", x.byteAt(at), model.byteAt(at));
        }

        void poke(int at, int value) {
            due("poke(" + at + ", " + value + ")", x.poke(at, value), model.poke(at, value));
        }

        void sum(int at, int count) {
            due("sum(" + at + ", " + count + ")", x.sum(at, count), model.sum(at, count));
        }

        void boot(int mode) {
            due("boot(" + mode + ")", x.boot(mode), model.boot(mode));
        }

        void booted(int what) {
            due("booted(" + what + ")", x.booted(what), model.booted(what));
        }

        void memory(int at) {
            due("memory(" + at + ")", x.memory(at), model.memory(at));
        }

        /** All that can be asked without a change, but for most of the memory. */
        void compare(String after) {
            Check.dueDisk(state + " after " + after, x, model);
            for (int k = 0; k < 4; k++) {
                booted(k);
                for (int what = 0; what < 3; what++) {
                    where(k, what);
                }
            }
            for (int at : new int[] {0, 4096, 5595, 5596, 65535}) {
                memory(at);
            }
        }
    }

    public static void main(String[] args) {
        for (State state : State.values()) {
            for (Call call : calls()) {
                Both both = state.make();
                call.make(both);
            }
        }
        everyCallLast();
        Check.finish();
    }

    /** Where an object can stand when a call comes. */
    private enum State {
        NEW_LEAST, NEW_MOST, NEW_OTHER, PLANNED, FULL, FILES_ALONE, REFUSED, WRITTEN, BY_TABLE, BY_COPY, BY_LOADER, FAILED_1,
        FAILED_2, FAILED_3, FAILED_4, FAILED_5, FAILED_6, FAILED_7, FAILED_8, FAILED_9, ALL_ONES;

        Both make() {
            switch (this) {
                case NEW_LEAST: return new Both(100, name());
                case NEW_MOST: return new Both(600, name());
                case NEW_OTHER: return new Both(Integer.MIN_VALUE, name());
                case PLANNED: return usual();
                case FULL: return full();
                case FILES_ALONE: return filesAlone();
                case REFUSED: return refused();
                default: return written();
            }
        }

        private Both usual() {
            Both both = new Both(160, name());
            both.partition(0, 40);
            both.partition(1, 20);
            both.file(Check.LOADER, 1200, 3, true);
            both.file(Check.name("DATA"), 700, 9, false);
            both.file(Check.KERNEL, 1500, 40, false);
            both.address(4096);
            return both;
        }

        private Both full() {
            Both both = new Both(600, name());
            for (int k = 0; k < 4; k++) {
                both.partition(k % 2, 120);
            }
            for (int i = 0; i < 12; i++) {
                both.file(i == 0 ? Check.KERNEL : i == 1 ? Check.LOADER : 'A' + i, 4000, 20 * i, i % 2 == 0);
            }
            both.write();
            both.boot(1);
            return both;
        }

        private Both filesAlone() {
            Both both = new Both(100, name());
            both.file(Check.KERNEL, 9000, 255, true);
            both.write();
            return both;
        }

        private Both refused() {
            Both both = usual();
            both.write();
            both.boot(0);
            both.file(Check.name("BIG"), 9000, 0, false);
            both.file(Check.name("BIGGER"), 9000, 0, true);
            both.write();
            return both;
        }

        private Both written() {
            Both both = usual();
            both.write();
            switch (this) {
                case BY_TABLE: both.boot(0); break;
                case BY_COPY: both.poke(512, 0); both.boot(0); break;
                case BY_LOADER: both.boot(1); break;
                case FAILED_1: failed(both, 0, 510, 0, 1); break;
                case FAILED_2: failed(both, 0, 450, 0, 2); break;
                case FAILED_3: both.poke(159 * 512, 0); failed(both, 0, 512, 0, 3); break;
                case FAILED_4: noBootEntry(both); break;
                case FAILED_5: failed(both, 0, Check.VOLUME + 13, 0, 5); break;
                case FAILED_6: failed(both, 0, Check.KERNEL_ENTRY, 'X', 6); break;
                case FAILED_7: failed(both, 0, Check.KERNEL_ENTRY + 26, 37, 7); break;
                case FAILED_8: failed(both, 0, Check.cluster(7), 'X', 8); break;
                case FAILED_9: failed(both, 1, 64, 21, 9); break;
                case ALL_ONES: allOnes(both); break;
                default: break;
            }
            return both;
        }

        /** Booted, then one byte becomes another one, and it fails. */
        private static void failed(Both both, int mode, int at, int value, int reason) {
            both.boot(mode);
            both.poke(at, value);
            both.boot(mode);
            both.due("boot(" + mode + ") for a reason", both.x.boot(mode), reason);
        }

        private static void noBootEntry(Both both) {
            both.poke(1024, 0);
            low4(both, 512 + 88, both.model.sum(1024, 16384));
            low4(both, 512 + 16, 0);
            low4(both, 512 + 16, both.model.sum(512, 92));
            both.boot(1);
            both.boot(0);
            both.due("boot(0) for a reason", both.x.boot(0), 4);
        }

        private static void low4(Both both, int at, int value) {
            for (int i = 0; i < 4; i++) {
                both.poke(at + i, value >>> 8 * i);
            }
        }

        /** Each number that the firmware reads is the greatest that its bytes can be. */
        private static void allOnes(Both both) {
            for (int i = 64; i < 100; i++) {
                both.poke(i, 255);
            }
            for (int i = 19; i < 24; i++) {
                both.poke(Check.VOLUME + i, 255);
            }
            for (int i = 26; i < 32; i++) {
                both.poke(Check.KERNEL_ENTRY + i, 255);
            }
            for (int i = 0; i < 92; i++) {
                both.poke(512 + i, 255);
            }
            both.boot(1);
            both.boot(0);
        }
    }

    private static List<Call> calls() {
        List<Call> calls = new ArrayList<>();
        calls.add(AnyStateTest::asks);
        for (int a : ENDS) {
            calls.add(both -> changes(both, a));
            for (int b : ENDS) {
                calls.add(both -> sums(both, a, b));
            }
        }
        calls.add(AnyStateTest::names);
        calls.add(AnyStateTest::writeAndBoot);
        return calls;
    }

    private static void asks(Both both) {
        for (int a : ENDS) {
            both.byteAt(a);
            both.booted(a);
            both.memory(a);
            for (int b : ENDS) {
                both.where(a, b);
            }
            for (int k = 0; k < 4; k++) {
                both.where(k, a);
                both.where(a, k);
            }
        }
        int end = both.model.disk.length;
        for (int at : new int[] {end - 1, end, end + 1}) {
            both.byteAt(at);
        }
        both.memory(65535);
        both.memory(65536);
        both.compare("asking");
    }

    private static void sums(Both both, int a, int b) {
        int end = both.model.disk.length;
        both.sum(a, b);
        both.sum(end, b);
        both.sum(end - 1, b);
        both.sum(a, end);
        both.sum(a, end - 1);
        both.sum(0, end);
        both.poke(a, b);
        both.poke(end - 1, b);
        both.poke(end, b);
        both.partition(a, b);
        both.partition(0, b);
        both.partition(1, b);
        both.partition(a, 8);
        both.file('Z', a, b, true);
        both.file('Z', 1, b, false);
        both.file('Z', a, 1, false);
        both.compare("two arguments " + a + " and " + b);
        writeAndBoot(both);
    }

    private static void changes(Both both, int a) {
        both.address(a);
        both.compare("address(" + a + ")");
        both.boot(a);
        both.compare("boot(" + a + ")");
        both.poke(a, a);
        both.poke(0, a);
        both.compare("poke(.., " + a + ")");
        both.boot(0);
        both.compare("boot(0)");
        both.boot(a);
        both.compare("boot(" + a + ")");
        writeAndBoot(both);
    }

    private static void names(Both both) {
        for (long name : LONG_ENDS) {
            both.file(name, 1, 1, false);
            for (int a : ENDS) {
                both.file(name, a, 0, true);
                both.file(name, 0, a, true);
            }
        }
        both.compare("names");
        writeAndBoot(both);
    }

    private static void writeAndBoot(Both both) {
        both.write();
        both.compare("write()");
        both.boot(0);
        both.compare("boot(0)");
        both.boot(1);
        both.compare("boot(1)");
    }

    /** "at most 512 calls": each call still holds as the 512th, behind 511 of the dearest. */
    private static void everyCallLast() {
        List<ToIntFunction<BootMaker>> calls = List.of(x -> x.partition(0, 8), x -> x.where(0, 0), x -> x.file('Z', 1, 1, false),
            x -> x.address(0) ? 1 : 0, BootMaker::write, x -> x.byteAt(0), x -> x.poke(0, 1), x -> x.sum(0, 160 * 512),
            x -> x.boot(0), x -> x.booted(0), x -> x.memory(4096), x -> x.boot(1));
        for (ToIntFunction<BootMaker> call : calls) {
            BootMaker once = plain();
            int want = call.applyAsInt(once);
            BootMaker often = plain();
            for (int i = 9; i < 510; i++) {
                if (i % 3 == 0) {
                    Check.due("write()", often.write(), 0);
                } else {
                    Check.due("boot()", often.boot(i % 3 - 1), 0);
                }
            }
            Check.due("boot(0)", often.boot(0), 0);
            Check.due("as the 512th call", call.applyAsInt(often), want);
        }
    }

    /** Nine calls: a disk that has booted. */
    private static BootMaker plain() {
        BootMaker x = new BootMaker(160);
        x.partition(0, 40);
        x.partition(1, 20);
        x.file(Check.LOADER, 1200, 3, true);
        x.file(Check.name("DATA"), 700, 9, false);
        x.file(Check.KERNEL, 1500, 40, false);
        x.address(4096);
        x.write();
        x.boot(1);
        x.boot(0);
        return x;
    }
}
