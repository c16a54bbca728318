import java.util.ArrayList;
import java.util.List;
import java.util.NoSuchElementException;
import java.util.function.ToIntFunction;

/**
 * A BootMaker as the tests use it. The document promises nothing beyond 512 calls on one object: what is asked beyond them
 * is asked of a new object that has had the same changes.
 */
final class Maker {
    /** Answers that stand for an exception; no call of the class answers these. */
    static final int ILLEGAL = -1001, NO_SUCH = -1002;
    static final int MOST_CALLS = 512, MOST_CHANGES = 500;

    private final int n;
    private final List<ToIntFunction<BootMaker>> changes = new ArrayList<>();
    private BootMaker maker;
    private int calls = 0;

    Maker(int n) {
        this.n = n;
        maker = new BootMaker(n);
    }

    int changes() {
        return changes.size();
    }

    private int change(ToIntFunction<BootMaker> call) {
        if (changes.size() == MOST_CHANGES) {
            throw new IllegalStateException("this test changes one object too often");
        }
        int answer = ask(call);
        changes.add(call);
        return answer;
    }

    private int ask(ToIntFunction<BootMaker> call) {
        if (calls == MOST_CALLS) {
            maker = new BootMaker(n);
            for (ToIntFunction<BootMaker> change : changes) {
                change.applyAsInt(maker);
            }
            calls = changes.size();
        }
        calls++;
        return call.applyAsInt(maker);
    }

    int partition(int sort, int sectors) {
        return change(x -> x.partition(sort, sectors));
    }

    int where(int partition, int what) {
        return ask(x -> x.where(partition, what));
    }

    int file(long name, int size, int seed, boolean scattered) {
        return change(x -> x.file(name, size, seed, scattered));
    }

    boolean address(int at) {
        return change(x -> x.address(at) ? 1 : 0) == 1;
    }

    int write() {
        return change(BootMaker::write);
    }

    int byteAt(int address) {
        return ask(x -> x.byteAt(address));
    }

    int poke(int address, int value) {
        return change(x -> x.poke(address, value));
    }

    int sum(int address, int count) {
        return ask(x -> x.sum(address, count));
    }

    int boot(int mode) {
        return change(x -> boot(x, mode));
    }

    private static int boot(BootMaker x, int mode) {
        try {
            return x.boot(mode);
        } catch (IllegalArgumentException e) {
            Check.due("IllegalArgumentException itself", e.getClass() == IllegalArgumentException.class, true);
            return ILLEGAL;
        }
    }

    int booted(int what) {
        return ask(x -> x.booted(what));
    }

    int memory(int address) {
        return ask(x -> memory(x, address));
    }

    private static int memory(BootMaker x, int address) {
        try {
            return x.memory(address);
        } catch (NoSuchElementException e) {
            Check.due("NoSuchElementException itself", e.getClass() == NoSuchElementException.class, true);
            return NO_SUCH;
        }
    }
}
