import java.util.ArrayList;
import java.util.List;

/**
 * A FatVolume as the tests use it: never for more calls than the document promises, as what later
 * calls answer is free. A whole disk has more bytes than that, so it is seen on fresh objects for
 * which the same calls are made.
 */
final class Volume {
    static final int CALLS = 512;

    private interface Call {
        void on(FatVolume fresh);
    }

    private final FatVolume real = new FatVolume();
    private final List<Call> past = new ArrayList<>();
    private int calls = 0;

    boolean type(long eight) {
        note(fresh -> fresh.type(eight));
        return real.type(eight);
    }

    void wipe() {
        note(fresh -> fresh.wipe());
        real.wipe();
    }

    int make(boolean directory, int time) {
        note(fresh -> fresh.make(directory, time));
        return real.make(directory, time);
    }

    int remove() {
        note(fresh -> fresh.remove());
        return real.remove();
    }

    int write(int at, long bytes, int n, int time) {
        note(fresh -> fresh.write(at, bytes, n, time));
        return real.write(at, bytes, n, time);
    }

    int cut(int n) {
        note(fresh -> fresh.cut(n));
        return real.cut(n);
    }

    int read(int k) {
        note(fresh -> fresh.read(k));
        return real.read(k);
    }

    int look() {
        note(fresh -> fresh.look());
        return real.look();
    }

    boolean fail(int n) {
        note(fresh -> fresh.fail(n));
        return real.fail(n);
    }

    boolean spoil(int c) {
        note(fresh -> fresh.spoil(c));
        return real.spoil(c);
    }

    boolean mount() {
        note(fresh -> fresh.mount());
        return real.mount();
    }

    boolean poke(int where, int k, int v) {
        note(fresh -> fresh.poke(where, k, v));
        return real.poke(where, k, v);
    }

    int repair() {
        note(fresh -> fresh.repair());
        return real.repair();
    }

    int peek(int where, int k) {
        count();
        return real.peek(where, k);
    }

    int calls() {
        return calls;
    }

    /** The boot record, then all bytes of the tables and clusters, a line each. */
    String disk() {
        StringBuilder text = new StringBuilder();
        FatVolume fresh = again();
        int left = CALLS - past.size();
        for (int where = -1; where < 32; where++) {
            int bytes = where < 0 ? 5 : where < 2 ? 32 : 64;
            for (int k = 0; k < bytes; k++) {
                if (left == 0) {
                    fresh = again();
                    left = CALLS - past.size();
                }
                left--;
                text.append(k == 0 ? "\n" : " ").append(fresh.peek(where, k));
            }
        }
        return text.toString();
    }

    private FatVolume again() {
        if (past.size() >= CALLS) {
            throw new AssertionError("no call is left to see the disk with");
        }
        FatVolume fresh = new FatVolume();
        for (Call call : past) {
            try {
                call.on(fresh);
            } catch (RuntimeException e) {
                continue;
            }
        }
        return fresh;
    }

    private void note(Call call) {
        count();
        past.add(call);
    }

    private void count() {
        calls++;
        if (calls > CALLS) {
            throw new AssertionError("the test uses an object for more than " + CALLS + " calls");
        }
    }
}
