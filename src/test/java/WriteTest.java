/** Promise 6: write. */
final class WriteTest {
    public static void main(String[] args) {
        lowestBytesHighestFirst();
        overWhatIsThere();
        places();
        arguments();
        noFile();
        timeAndSize();
        chainIsAnew();
        upTo192();
        brokenChainCountsAsZeros();
        nothingElseOfTheEntry();
        tooLongBySizeByte();
        Trial.end();
    }

    private static void lowestBytesHighestFirst() {
        for (int n = 1; n <= 8; n++) {
            Volume v = Trial.withFile("F");
            int count = n;
            Trial.due(n, () -> v.write(0, 0xF1E2D3C4B5A69788L, count, 2));
            int[] all = {0xF1, 0xE2, 0xD3, 0xC4, 0xB5, 0xA6, 0x97, 0x88};
            for (int k = 0; k < n; k++) {
                int at = k;
                Trial.due(all[8 - n + k], () -> v.read(at));
            }
            Trial.due(-1, () -> v.read(count));
            Trial.due(count + 2 * 256, () -> v.look() & 0xffff);
        }
    }

    private static void overWhatIsThere() {
        Volume v = Trial.withFile("F");
        Trial.fill(v, 10);
        Trial.due(10, () -> v.write(3, 0x6162L, 2, 1));
        Trial.due("1 2 3 97 98 6 7 8 9 10 0", () -> Trial.bytes(v, v.look() >> 17, 0, 11));
        Trial.due(12, () -> v.write(8, 0x41424344L, 4, 1));
        Trial.due("1 2 3 97 98 6 7 8 65 66 67 68 0", () -> Trial.bytes(v, v.look() >> 17, 0, 13));
        Trial.due(12, () -> v.write(0, 0L, 8, 1));
        Trial.due("0 0 0 0 0 0 0 0 65 66 67 68 0", () -> Trial.bytes(v, v.look() >> 17, 0, 13));
    }

    private static void places() {
        Volume v = Trial.withFile("F");
        Trial.due(-1, () -> v.write(1, 1L, 1, 1));
        Trial.due(-1, () -> v.write(-1, 1L, 1, 1));
        Trial.due(5, () -> v.write(0, 1L, 5, 1));
        int root = v.peek(-1, 1);
        for (int place : new int[] {6, 7, -1, 193, Integer.MAX_VALUE, Integer.MIN_VALUE}) {
            Trial.due(-1, () -> v.write(place, 1L, 8, 1));
        }
        Trial.due(root, () -> v.peek(-1, 1));
        Trial.due(6, () -> v.write(5, 1L, 1, 1));
    }

    private static void arguments() {
        Volume v = Trial.withFile("F");
        for (int n : new int[] {0, -1, 9, Integer.MAX_VALUE, Integer.MIN_VALUE}) {
            Trial.due(Trial.ARGUMENT, () -> v.write(0, 1L, n, 1));
        }
        for (int time : new int[] {-1, 256, Integer.MAX_VALUE, Integer.MIN_VALUE}) {
            Trial.due(Trial.ARGUMENT, () -> v.write(0, 1L, 1, time));
        }
        Trial.due(256, () -> v.look());
        Trial.due(1, () -> v.write(0, 1L, 1, 255));
        Trial.due(1, () -> v.write(0, 1L, 1, 0));
        Trial.due(1, () -> v.look() & 0xffff);
    }

    private static void noFile() {
        Volume v = Trial.at(new Volume(), "D");
        v.make(true, 0);
        String before = Trial.disk(v);
        for (String path : new String[] {"D", "E", "D/F", "E/F"}) {
            Trial.due(-1, () -> Trial.at(v, path).write(0, 1L, 1, 1));
        }
        Trial.due(before, () -> Trial.disk(v));
    }

    private static void timeAndSize() {
        Volume v = Trial.withFile("F");
        v.write(0, 1L, 8, 200);
        Trial.due("1 70 0 0 2 8 0 200", () -> Trial.entry(v, v.peek(-1, 1), 0));
        v.write(0, 1L, 1, 3);
        Trial.due(8 + 3 * 256, () -> v.look() & 0xffff);
    }

    private static void chainIsAnew() {
        Volume v = Trial.withFile("F");
        Trial.fill(v, 64);
        int before = v.look() >> 17;
        int free = v.peek(-1, 2);
        Trial.due(65, () -> v.write(64, 77L, 1, 1));
        int first = v.look() >> 17;
        int active = v.peek(-1, 0);
        int second = v.peek(active, first);
        Trial.due(true, () -> first != before && second > first);
        Trial.due(255, () -> v.peek(active, second));
        Trial.due(0, () -> v.peek(active, before));
        Trial.due(free - 1, () -> v.peek(-1, 2));
        Trial.due("77 0 0", () -> Trial.bytes(v, second, 0, 3));
        Trial.due("62 63 64", () -> Trial.bytes(v, first, 61, 3));
        for (int k = 1; k < 64; k++) {
            int at = k;
            Trial.due(0, () -> v.peek(second, at));
        }
        Trial.due(0, () -> v.repair());
    }

    private static void upTo192() {
        Volume v = Trial.withFile("F");
        Trial.fill(v, 185);
        String before = Trial.disk(v);
        Trial.due(Trial.UNSUPPORTED, () -> v.write(185, 1L, 8, 1));
        Trial.due(before, () -> Trial.disk(v));
        Trial.due(192, () -> v.write(185, 0x01020304050607L, 7, 1));
        Trial.due(Trial.UNSUPPORTED, () -> v.write(192, 1L, 1, 1));
        Trial.due(-1, () -> v.write(193, 1L, 1, 1));
        Trial.due(192, () -> v.write(191, 99L, 1, 1));
        Trial.due(99, () -> v.read(191));
        Trial.due(6, () -> v.read(190));
        Trial.due(192, () -> v.write(184, 1L, 8, 1));
        Trial.due(1, () -> v.read(191));
        Trial.due(184, () -> v.read(183));
        Trial.due(26, () -> v.peek(-1, 2));
        Trial.due(0, () -> v.repair());
    }

    private static void brokenChainCountsAsZeros() {
        Volume v = Trial.withFile("F");
        Trial.fill(v, 100);
        int active = v.peek(-1, 0);
        int first = v.look() >> 17;
        int second = v.peek(active, first);
        v.poke(active, first, 255);
        Trial.due(-1, () -> v.read(64));
        Trial.due(101, () -> v.write(100, 5L, 1, 1));
        Trial.due(64, () -> v.read(63));
        Trial.due(0, () -> v.read(64));
        Trial.due(0, () -> v.read(99));
        Trial.due(5, () -> v.read(100));
        Trial.due(255, () -> v.peek(1 - active, second));
        Trial.due(0, () -> v.peek(1 - active, first));
        Trial.due(1, () -> v.repair());
    }

    private static void nothingElseOfTheEntry() {
        Volume v = Trial.withFile("lower");
        v.poke(3, 8 + 6, 77);
        Trial.due(3, () -> v.write(0, 7L, 3, 2));
        Trial.due("15 65 93 108 111 119 101 114", () -> Trial.entry(v, v.peek(-1, 1), 0));
        Trial.due("1 76 126 49 2 3 77 2", () -> Trial.entry(v, v.peek(-1, 1), 1));
    }

    private static void tooLongBySizeByte() {
        Volume v = Trial.withFile("F");
        v.poke(3, 5, 193);
        Trial.due(Trial.UNSUPPORTED, () -> v.write(0, 1L, 1, 1));
        Trial.due(Trial.UNSUPPORTED, () -> v.write(193, 1L, 1, 1));
        Trial.due(-1, () -> v.write(194, 1L, 1, 1));
        v.poke(3, 5, 192);
        Trial.due(192, () -> v.write(191, 1L, 1, 1));
        Trial.due(0, () -> v.read(190));
        Trial.due(1, () -> v.read(191));
    }
}
