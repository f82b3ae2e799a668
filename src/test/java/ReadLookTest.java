/** Promises 8 and 9: read and look. */
final class ReadLookTest {
    public static void main(String[] args) {
        everyByte();
        noSuchByte();
        noFile();
        chainsThatEndBefore();
        chainsThatGoRound();
        whatIsLookedAt();
        nothingIsWritten();
        Trial.end();
    }

    private static void everyByte() {
        Volume v = Trial.withFile("F");
        Trial.fill(v, 192);
        for (int k = 0; k < 192; k++) {
            int at = k;
            Trial.due(k + 1, () -> v.read(at));
        }
        Trial.due(-1, () -> v.read(192));
    }

    private static void noSuchByte() {
        Volume v = Trial.withFile("F");
        Trial.due(-1, () -> v.read(0));
        Trial.fill(v, 3);
        for (int k : new int[] {-1, 3, 64, 256, Integer.MAX_VALUE, Integer.MIN_VALUE}) {
            Trial.due(-1, () -> v.read(k));
        }
        Trial.due(3, () -> v.read(2));
    }

    private static void noFile() {
        Volume v = Trial.at(new Volume(), "D");
        v.make(true, 0);
        v.poke(4, 5, 64);
        for (String path : new String[] {"D", "E", "D/F"}) {
            Trial.due(-1, () -> Trial.at(v, path).read(0));
        }
    }

    private static void chainsThatEndBefore() {
        Volume v = Trial.withFile("F");
        Trial.fill(v, 130);
        int root = v.peek(-1, 1);
        int first = v.look() >> 17;
        int second = v.peek(v.peek(-1, 0), first);
        for (int end : new int[] {0, 1, 32, 254, 255}) {
            v.poke(v.peek(-1, 0), second, end);
            Trial.due(128, () -> v.read(127));
            Trial.due(-1, () -> v.read(128));
        }
        for (int end : new int[] {0, 1, 32, 255}) {
            v.poke(root, 4, end);
            Trial.due(-1, () -> v.read(0));
        }
        v.poke(root, 4, second);
        Trial.due(65, () -> v.read(0));
    }

    private static void chainsThatGoRound() {
        Volume v = Trial.withFile("F");
        v.poke(1, 31, 31);
        v.poke(31, 62, 8);
        v.poke(31, 63, 9);
        v.poke(3, 4, 31);
        v.poke(3, 5, 255);
        Trial.due(9, () -> v.read(63));
        Trial.due(9, () -> v.read(191));
        Trial.due(8, () -> v.read(254));
        Trial.due(-1, () -> v.read(255));
    }

    private static void whatIsLookedAt() {
        Volume v = Trial.at(new Volume(), "D");
        v.make(true, 17);
        Trial.due(65536 + 17 * 256 + 3 * 131072, () -> v.look());
        Trial.at(v, "D/F").make(false, 255);
        Trial.due(255 * 256, () -> v.look());
        Trial.due(8, () -> v.write(0, 1L, 8, 254));
        Trial.due(8 + 254 * 256 + 3 * 131072, () -> v.look());
        for (String path : new String[] {"E", "D/E", "F", "E/F", "D/F/G"}) {
            Trial.due(-1, () -> Trial.at(v, path).look());
        }
        Trial.putEntry(v, v.peek(-1, 1), 0, 2, 'D', 0, 0, 255, 255, 255, 255);
        Trial.due(255 + 255 * 256 + 65536 + 255 * 131072, () -> Trial.at(v, "D").look());
    }

    private static void nothingIsWritten() {
        Volume v = Trial.withFile("F");
        Trial.fill(v, 10);
        String before = Trial.disk(v);
        v.fail(1);
        v.read(0);
        v.read(99);
        v.look();
        Trial.due(before, () -> Trial.disk(v));
    }
}
