/** Promises 13 and 14: poke and peek. */
final class PokePeekTest {
    private static final int[] FAR = {Integer.MIN_VALUE, Integer.MAX_VALUE};

    public static void main(String[] args) {
        everyPlace();
        wrongPlaces();
        wrongBytes();
        bytesAreTheDisk();
        aboutTheDisk();
        whileDown();
        Trial.end();
    }

    private static void everyPlace() {
        for (int where = 0; where < 32; where++) {
            Volume v = new Volume();
            int place = where;
            int bytes = where < 2 ? 32 : 64;
            for (int k = 0; k < bytes; k++) {
                int at = k;
                Trial.due(true, () -> v.poke(place, at, 255 - at));
            }
            for (int k = 0; k < bytes; k++) {
                int at = k;
                Trial.due(255 - k, () -> v.peek(place, at));
            }
            Trial.due(where == 0 ? 255 - 5 : 0, () -> v.peek(0, 5));
            Trial.due(where == 31 ? 255 - 5 : 0, () -> v.peek(31, 5));
        }
    }

    private static void wrongPlaces() {
        Volume v = new Volume();
        String before = Trial.disk(v);
        int[][] wrong = {{-1, 0}, {-1, 1}, {-1, 4}, {-2, 0}, {32, 0}, {0, 32}, {1, 32}, {1, -1}, {0, 63}, {2, 64}, {2, -1},
            {31, 64}, {FAR[0], 0}, {FAR[1], 0}, {0, FAR[0]}, {0, FAR[1]}, {5, FAR[0]}, {5, FAR[1]}};
        for (int[] place : wrong) {
            Trial.due(false, () -> v.poke(place[0], place[1], 7));
            if (place[0] != -1) {
                Trial.due(-1, () -> v.peek(place[0], place[1]));
            }
        }
        Trial.due(before, () -> Trial.disk(v));
        for (int k : new int[] {-1, 5, 31, FAR[0], FAR[1]}) {
            Trial.due(-1, () -> v.peek(-1, k));
        }
    }

    private static void wrongBytes() {
        Volume v = new Volume();
        for (int b : new int[] {-1, 256, FAR[0], FAR[1]}) {
            Trial.due(false, () -> v.poke(0, 2, b));
            Trial.due(false, () -> v.poke(2, 2, b));
        }
        Trial.due(255, () -> v.peek(0, 2));
        Trial.due(0, () -> v.peek(2, 2));
        Trial.due(true, () -> v.poke(2, 2, 255));
        Trial.due(true, () -> v.poke(2, 2, 0));
        Trial.due(0, () -> v.peek(2, 2));
    }

    private static void bytesAreTheDisk() {
        Volume v = new Volume();
        Trial.putEntry(v, 2, 3, 1, 'P', 'Q', 0, 9, 2, 0, 4);
        Trial.put(v, 9, 0, 55, 66);
        Trial.due(2 + 4 * 256 + 9 * 131072, () -> Trial.at(v, "PQ").look());
        Trial.due(66, () -> v.read(1));
    }

    private static void aboutTheDisk() {
        Volume v = Trial.at(new Volume(), "A");
        Trial.put(v, 0, 0, 0, 254);
        Trial.put(v, 0, 29, 254, 254, 254);
        Trial.put(v, 1, 20, 254, 254);
        Trial.due("0 2 26 3 0", () -> Trial.bytes(v, -1, 0, 5));
        Trial.put(v, 0, 10, 1, 32, 253);
        Trial.due("0 2 23 3 0", () -> Trial.bytes(v, -1, 0, 5));
        v.make(false, 0);
        Trial.due("1 3 23 3 0", () -> Trial.bytes(v, -1, 0, 5));
        v.poke(1, 3, 0);
        Trial.due("1 3 24 3 0", () -> Trial.bytes(v, -1, 0, 5));
    }

    private static void whileDown() {
        Volume v = Trial.at(new Volume(), "A");
        v.fail(1);
        v.make(false, 0);
        Trial.due(true, () -> v.poke(5, 5, 5));
        Trial.due(5, () -> v.peek(5, 5));
        Trial.due("0 2 29 0 1", () -> Trial.bytes(v, -1, 0, 5));
    }
}
