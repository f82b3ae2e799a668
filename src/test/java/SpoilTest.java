/** Promise 11: spoil, and what becomes of spoilt clusters in a change. */
final class SpoilTest {
    public static void main(String[] args) {
        numbers();
        putAside();
        inAChain();
        aSpoiltWriteCounts();
        stillRead();
        noneLeft();
        refusedMarksNothing();
        whileDown();
        Trial.end();
    }

    private static void numbers() {
        Volume v = new Volume();
        for (int c : new int[] {-1, 0, 1, 32, 33, Integer.MAX_VALUE, Integer.MIN_VALUE}) {
            Trial.due(false, () -> v.spoil(c));
        }
        String before = Trial.disk(v);
        for (int c = 2; c < 32; c++) {
            int cluster = c;
            Trial.due(true, () -> v.spoil(cluster));
            Trial.due(false, () -> v.spoil(cluster));
        }
        Trial.due(before, () -> Trial.disk(v));
    }

    private static void putAside() {
        Volume v = Trial.at(new Volume(), "D");
        Trial.put(v, 3, 0, 9, 9);
        v.spoil(3);
        v.spoil(5);
        Trial.due(0, () -> v.peek(-1, 3));
        Trial.due(Trial.name("D"), () -> v.make(true, 0));
        Trial.due("0 254 255 254 255 0", () -> Trial.bytes(v, 1, 2, 6));
        Trial.due("0 0 0 0", () -> Trial.bytes(v, 0, 3, 4));
        Trial.due("9 9", () -> Trial.bytes(v, 3, 0, 2));
        Trial.due("2 68 0 0 4 0 0 0", () -> Trial.entry(v, 6, 0));
        Trial.due("1 6 26 2 0", () -> Trial.bytes(v, -1, 0, 5));
        Trial.due(1, () -> v.remove());
        Trial.due("0 2 27 2 0", () -> Trial.bytes(v, -1, 0, 5));
        Trial.due(0, () -> v.repair());
        Trial.due(2, () -> v.peek(-1, 3));
        Trial.due(true, () -> v.poke(3, 1, 4));
        Trial.due(4, () -> v.peek(3, 1));
    }

    private static void inAChain() {
        Volume v = Trial.withFile("F");
        Trial.fill(v, 128);
        Trial.due(27, () -> v.peek(-1, 2));
        int active = v.peek(-1, 0);
        int[] free = new int[4];
        for (int c = 2, n = 0; n < 4; c++) {
            if (v.peek(active, c) == 0) {
                free[n++] = c;
            }
        }
        v.spoil(free[1]);
        Trial.due(128, () -> v.write(0, 1L, 1, 1));
        Trial.due(free[0], () -> v.look() >> 17);
        Trial.due(free[2], () -> v.peek(1 - active, free[0]));
        Trial.due(254, () -> v.peek(1 - active, free[1]));
        Trial.due(255, () -> v.peek(1 - active, free[2]));
        Trial.due(free[3], () -> v.peek(-1, 1));
        Trial.due(128, () -> v.read(127));
        Trial.due(0, () -> v.repair());
    }

    private static void aSpoiltWriteCounts() {
        for (int n = 1; n <= 5; n++) {
            Volume v = Trial.at(new Volume(), "A");
            v.spoil(3);
            v.spoil(4);
            v.fail(n);
            Trial.due(n == 5 + 1 ? Trial.name("A") : -2, () -> v.make(false, 0));
            v.mount();
            Trial.due(0, () -> v.peek(-1, 3));
        }
        Volume v = Trial.at(new Volume(), "A");
        v.spoil(3);
        v.spoil(4);
        v.fail(6);
        Trial.due(Trial.name("A"), () -> v.make(false, 0));
        Trial.due(2, () -> v.peek(-1, 3));
        Trial.due(-2, () -> v.remove());
    }

    private static void stillRead() {
        Volume v = Trial.withFile("F");
        Trial.fill(v, 3);
        int root = v.peek(-1, 1);
        int first = v.look() >> 17;
        v.spoil(root);
        v.spoil(first);
        Trial.due(3, () -> v.read(2));
        Trial.due(0, () -> v.peek(-1, 3));
        Trial.due(4, () -> v.write(3, 4L, 1, 1));
        Trial.due(0, () -> v.peek(-1, 3));
        Trial.due(4, () -> v.write(3, 4L, 1, 1));
        Trial.due(2, () -> v.peek(-1, 3));
        Trial.due(4, () -> v.read(3));
    }

    private static void noneLeft() {
        Volume v = Trial.at(new Volume(), "A");
        for (int c = 3; c < 32; c++) {
            v.spoil(c);
        }
        String before = Trial.disk(v);
        Trial.due(Trial.UNSUPPORTED, () -> v.make(false, 0));
        Trial.due(before, () -> Trial.disk(v));
        v.fail(30);
        Trial.due(Trial.UNSUPPORTED, () -> v.make(false, 0));
        Trial.due(-2, () -> v.make(false, 0));
    }

    private static void refusedMarksNothing() {
        Volume v = Trial.at(new Volume(), "D");
        Trial.leaveFree(v, 30, 31);
        v.spoil(30);
        v.poke(31, 5, 5);
        Trial.due(Trial.UNSUPPORTED, () -> v.make(true, 0));
        Trial.due(0, () -> v.peek(31, 5));
        Trial.due("0 2 2 0 0", () -> Trial.bytes(v, -1, 0, 5));
        Trial.due(0, () -> v.peek(1, 30));
        Trial.due(Trial.name("D"), () -> v.make(false, 0));
        Trial.due("1 31 1 1 0", () -> Trial.bytes(v, -1, 0, 5));
    }

    private static void whileDown() {
        Volume v = Trial.at(new Volume(), "D");
        v.fail(1);
        v.make(true, 0);
        Trial.due(true, () -> v.spoil(3));
        Trial.due(false, () -> v.spoil(3));
        v.mount();
        v.make(false, 0);
        Trial.due(4, () -> v.peek(-1, 1));
    }
}
