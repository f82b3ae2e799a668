/** Promises 10 and 12: fail and mount, and the writes that a change is made of. */
final class FailMountTest {
    public static void main(String[] args) {
        numbers();
        everyWriteOfAMake();
        everyWriteOfAFile();
        everyWriteOfARemove();
        writesAreCountedOverCalls();
        theLastTellingCounts();
        fortiethWrite();
        mountTwice();
        tableWithoutBoot();
        repairIsNoWrite();
        Trial.end();
    }

    private static void numbers() {
        Volume v = Trial.at(new Volume(), "A");
        for (int n : new int[] {-1, 41, Integer.MAX_VALUE, Integer.MIN_VALUE}) {
            Trial.due(false, () -> v.fail(n));
        }
        for (int n : new int[] {0, 1, 40}) {
            Trial.due(true, () -> v.fail(n));
        }
        v.fail(1);
        Trial.due(false, () -> v.fail(41));
        Trial.due(-2, () -> v.make(false, 0));
        Trial.due(false, () -> v.fail(0));
        Trial.due(false, () -> v.fail(1));
        Trial.due(true, () -> v.mount());
        Trial.due(Trial.name("A"), () -> v.make(false, 0));
    }

    private static Volume deep() {
        Volume v = new Volume();
        Trial.at(v, "D").make(true, 0);
        Trial.at(v, "D/F").make(false, 0);
        Trial.fill(v, 128);
        return v;
    }

    private static void everyWriteOfAMake() {
        for (int n = 1; n <= 6; n++) {
            Volume v = deep();
            Trial.at(v, "D/E");
            v.fail(n);
            int answer = n <= 5 ? -2 : Trial.name("E");
            Trial.due(answer, () -> v.make(true, 1));
            stoodOrWent(v, n <= 5, n);
            Trial.due(n <= 5, () -> v.look() == -1);
        }
    }

    private static void stoodOrWent(Volume v, boolean down, int n) {
        Trial.due(down ? 1 : 0, () -> v.peek(-1, 4));
        if (down) {
            Trial.due(Trial.STATE, () -> v.look());
        }
        Trial.due(down, () -> v.mount());
        Trial.due(0, () -> v.peek(-1, 4));
        Trial.due(0, () -> v.repair());
    }

    private static void everyWriteOfAFile() {
        for (int n = 1; n <= 8; n++) {
            Volume v = deep();
            int root = v.peek(-1, 1);
            int active = v.peek(-1, 0);
            v.fail(n);
            Trial.due(n <= 7 ? -2 : 129, () -> v.write(128, 200L, 1, 77));
            stoodOrWent(v, n <= 7, n);
            Trial.due(n <= 7, () -> v.peek(-1, 1) == root && v.peek(-1, 0) == active);
            Trial.due(n <= 7 ? -1 : 200, () -> v.read(128));
            Trial.due(128, () -> v.read(127));
        }
    }

    private static void everyWriteOfARemove() {
        for (int n = 1; n <= 5; n++) {
            Volume v = deep();
            v.fail(n);
            Trial.due(n <= 4 ? -2 : 1, () -> v.remove());
            stoodOrWent(v, n <= 4, n);
            Trial.due(n <= 4 ? 1 : -1, () -> v.read(0));
        }
        Volume v = deep();
        v.fail(4);
        Trial.due(-2, () -> v.cut(0));
        v.mount();
        v.fail(5);
        Trial.due(128, () -> v.cut(0));
        Trial.due(-2, () -> v.write(0, 1L, 1, 1));
    }

    private static void writesAreCountedOverCalls() {
        Volume v = Trial.at(new Volume(), "A");
        v.fail(4);
        Trial.due(Trial.name("A"), () -> v.make(false, 0));
        Trial.due(-1, () -> v.make(false, 0));
        Trial.due(0, () -> v.look());
        Trial.due(-2, () -> v.remove());
        Trial.due(true, () -> v.mount());
        Trial.due(1, () -> v.remove());
    }

    private static void theLastTellingCounts() {
        Volume v = Trial.at(new Volume(), "A");
        v.fail(1);
        v.fail(0);
        Trial.due(Trial.name("A"), () -> v.make(false, 0));
        v.fail(1);
        v.fail(4);
        Trial.due(1, () -> v.remove());
        v.fail(2);
        Trial.due(-2, () -> v.make(false, 0));
    }

    private static void fortiethWrite() {
        Volume v = Trial.at(new Volume(), "A");
        Trial.due(true, () -> v.fail(40));
        for (int i = 0; i < 13; i++) {
            int answer = i % 2 == 0 ? Trial.name("A") : 1;
            boolean making = i % 2 == 0;
            Trial.due(answer, () -> making ? v.make(false, 0) : v.remove());
        }
        Trial.due(-2, () -> v.remove());
    }

    private static void mountTwice() {
        Volume v = Trial.at(new Volume(), "A");
        Trial.due(false, () -> v.mount());
        v.fail(2);
        Trial.due(false, () -> v.mount());
        Trial.due(-2, () -> v.make(false, 0));
        Trial.due(true, () -> v.mount());
        Trial.due(false, () -> v.mount());
        for (int i = 0; i < 20; i++) {
            v.make(false, 0);
            Trial.due(1, () -> v.remove());
        }
    }

    /** A failure at the boot record: the other table is written, but not in force. */
    private static void tableWithoutBoot() {
        Volume v = Trial.at(new Volume(), "A");
        v.poke(0, 0, 9);
        v.poke(0, 1, 8);
        v.poke(1, 31, 7);
        v.fail(2);
        v.make(false, 0);
        Trial.due("1 65 0 0 0 0 0 0", () -> Trial.entry(v, 3, 0));
        Trial.due("0 0 0 0", () -> Trial.bytes(v, 1, 0, 4));
        Trial.due(7, () -> v.peek(1, 31));
        v.mount();
        v.fail(3);
        v.make(false, 0);
        Trial.due("9 8 0 255", () -> Trial.bytes(v, 1, 0, 4));
        Trial.due(0, () -> v.peek(1, 31));
        Trial.due("0 2 29 0 1", () -> Trial.bytes(v, -1, 0, 5));
        v.mount();
        Trial.due(-1, () -> v.look());
        Volume w = Trial.at(new Volume(), "A");
        Trial.put(w, 3, 0, 5, 6);
        w.fail(1);
        w.make(false, 0);
        Trial.due("5 6", () -> Trial.bytes(w, 3, 0, 2));
    }

    private static void repairIsNoWrite() {
        Volume v = Trial.at(new Volume(), "A");
        v.fail(1);
        v.poke(0, 9, 9);
        v.poke(2, 0, 9);
        Trial.due(2, () -> v.repair());
        Trial.due(-2, () -> v.make(false, 0));
    }
}
