/** Promise 7: cut. */
final class CutTest {
    public static void main(String[] args) {
        firstBytesAlone();
        toNothing();
        noneGoes();
        numbersAndFiles();
        tooLongBySizeByte();
        brokenChainCountsAsZeros();
        Trial.end();
    }

    private static void firstBytesAlone() {
        Volume v = Trial.withFile("F");
        Trial.fill(v, 130);
        Trial.due(1, () -> v.cut(129));
        Trial.due(129 + 9 * 256, () -> v.look() & 0xffff);
        Trial.due(129, () -> v.read(128));
        Trial.due(-1, () -> v.read(129));
        Trial.due(64, () -> v.cut(65));
        int active = v.peek(-1, 0);
        int first = v.look() >> 17;
        Trial.due("65 0 0", () -> Trial.bytes(v, v.peek(active, first), 0, 3));
        Trial.due(1, () -> v.cut(64));
        Trial.due(28, () -> v.peek(-1, 2));
        Trial.due(255, () -> v.peek(v.peek(-1, 0), v.look() >> 17));
        Trial.due(60, () -> v.cut(4));
        Trial.due("3 4 0 0", () -> Trial.bytes(v, v.look() >> 17, 2, 4));
        Trial.due(0, () -> v.peek(v.look() >> 17, 63));
        Trial.due(6, () -> v.write(4, 0x0909L, 2, 1));
        Trial.due(0, () -> v.repair());
    }

    private static void toNothing() {
        Volume v = Trial.withFile("F");
        Trial.fill(v, 70);
        Trial.due(70, () -> v.cut(0));
        Trial.due("1 70 0 0 0 0 0 9", () -> Trial.entry(v, v.peek(-1, 1), 0));
        Trial.due(29, () -> v.peek(-1, 2));
        Trial.due(0, () -> v.cut(0));
        Trial.due(-1, () -> v.cut(1));
        Trial.due(0, () -> v.repair());
    }

    private static void noneGoes() {
        Volume v = Trial.withFile("F");
        Trial.due(0, () -> v.cut(0));
        Trial.fill(v, 9);
        String before = Trial.disk(v);
        v.fail(1);
        Trial.due(0, () -> v.cut(9));
        Trial.due(before, () -> Trial.disk(v));
        Trial.due(-2, () -> v.cut(8));
    }

    private static void numbersAndFiles() {
        Volume v = Trial.withFile("F");
        Trial.fill(v, 9);
        Trial.at(v, "D").make(true, 0);
        String before = Trial.disk(v);
        for (String path : new String[] {"D", "E", "D/F", "F/F"}) {
            Trial.due(-1, () -> Trial.at(v, path).cut(0));
        }
        Trial.at(v, "F");
        for (int n : new int[] {-1, 10, 193, 256, Integer.MAX_VALUE, Integer.MIN_VALUE}) {
            Trial.due(-1, () -> v.cut(n));
        }
        Trial.due(before, () -> Trial.disk(v));
    }

    private static void tooLongBySizeByte() {
        Volume v = Trial.withFile("F");
        Trial.fill(v, 192);
        int root = v.peek(-1, 1);
        v.poke(root, 5, 255);
        Trial.due(Trial.UNSUPPORTED, () -> v.cut(193));
        Trial.due(Trial.UNSUPPORTED, () -> v.cut(254));
        Trial.due(Trial.UNSUPPORTED, () -> v.cut(255));
        Trial.due(-1, () -> v.cut(256));
        Trial.due(root, () -> v.peek(-1, 1));
        Trial.due(63, () -> v.cut(192));
        Trial.due(192, () -> v.read(191));
        Trial.due(0, () -> v.repair());
    }

    private static void brokenChainCountsAsZeros() {
        Volume v = Trial.withFile("F");
        Trial.fill(v, 130);
        v.poke(v.peek(-1, 0), v.look() >> 17, 254);
        Trial.due(30, () -> v.cut(100));
        Trial.due(64, () -> v.read(63));
        Trial.due(0, () -> v.read(64));
        Trial.due(0, () -> v.read(99));
        Trial.due(-1, () -> v.read(100));
    }
}
