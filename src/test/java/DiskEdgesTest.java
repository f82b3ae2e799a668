/** The edges that the terms name for the disk, its tables, directories, entries and chains. */
final class DiskEdgesTest {
    private static final int[] NO_CLUSTERS = {0, 1, 32, 33, 253, 254, 255};

    public static void main(String[] args) {
        lastClusterIsTaken();
        clustersZeroAndOneAreNone();
        onlyZeroIsFree();
        onlyTwoHundredFiftyFourIsBad();
        nextOfAChain();
        clusterOfSixtyFourBytes();
        eighthEntry();
        noNinthEntry();
        firstClusterOfNoBytes();
        sumsWrapAround();
        ordersOfLongEntries();
        longEntriesAtTheStartOfADirectory();
        longEntriesDoNotReachBackOverADirectory();
        asManyClustersAsTheSizeNeeds();
        asManyBytesAsTheSize();
        fewerBytesIfTheChainEndsBefore();
        fiveHundredAndTwelveCalls();
        Trial.end();
    }

    private static void lastClusterIsTaken() {
        Volume v = Trial.at(new Volume(), "A");
        Trial.leaveFree(v, 31);
        Trial.due(Trial.name("A"), () -> v.make(false, 6));
        Trial.due(31, () -> v.peek(-1, 1));
        Trial.due(6 * 256, () -> v.look());
        Trial.due("255 0", () -> v.peek(1, 31) + " " + v.peek(1, 2));
        Trial.due(1, () -> v.remove());
        Trial.due(2, () -> v.peek(-1, 1));
    }

    /** Their bytes of a table are 0, and yet they are never free, never taken, never freed. */
    private static void clustersZeroAndOneAreNone() {
        Volume v = Trial.at(new Volume(), "A");
        Trial.leaveFree(v);
        Trial.due("0 0", () -> Trial.bytes(v, 0, 0, 2));
        Trial.due(0, () -> v.peek(-1, 2));
        Trial.due(Trial.UNSUPPORTED, () -> v.make(false, 0));
        Trial.due("0 2 0 0 0", () -> Trial.bytes(v, -1, 0, 5));
        Volume w = new Volume();
        Trial.putEntry(w, 2, 0, 1, 'F', 0, 0, 1, 64, 0, 0);
        Trial.putEntry(w, 2, 1, 1, 'G', 0, 0, 0, 64, 0, 0);
        Trial.put(w, 0, 0, 77, 78);
        Trial.due(1, () -> Trial.at(w, "F").remove());
        Trial.due(1, () -> Trial.at(w, "G").remove());
        Trial.due("77 78", () -> Trial.bytes(w, 0, 0, 2));
        Trial.due("77 78", () -> Trial.bytes(w, 1, 0, 2));
        Trial.due(29, () -> w.peek(-1, 2));
    }

    private static void onlyZeroIsFree() {
        for (int state = 0; state < 256; state++) {
            int byteOfAll = state;
            Volume v = Trial.at(new Volume(), "A");
            for (int c = 3; c < 32; c++) {
                v.poke(0, c, byteOfAll);
            }
            Trial.due(state == 0 ? 29 : 0, () -> v.peek(-1, 2));
            Object due = state == 0 ? Trial.name("A") : Trial.UNSUPPORTED;
            Trial.due(due, () -> v.make(false, 0));
        }
    }

    private static void onlyTwoHundredFiftyFourIsBad() {
        for (int state = 0; state < 256; state++) {
            int some = state;
            Volume v = new Volume();
            Trial.put(v, 0, 0, some, some, some);
            v.poke(0, 31, some);
            Trial.due(state == 254 ? 2 : 0, () -> v.peek(-1, 3));
            Trial.due(state == 0 ? 30 : 28, () -> v.peek(-1, 2));
        }
    }

    private static void nextOfAChain() {
        for (int next = 0; next < 256; next++) {
            int cluster = next;
            Volume v = Trial.at(new Volume(), "F");
            Trial.putEntry(v, 2, 0, 1, 'F', 0, 0, 9, 65, 0, 0);
            v.poke(0, 9, cluster);
            boolean there = next >= 2 && next <= 31;
            if (there) {
                v.poke(cluster, 0, cluster == 2 ? 1 : cluster);
            }
            Trial.due(!there ? -1 : next == 2 ? 1 : next, () -> v.read(64));
        }
    }

    private static void clusterOfSixtyFourBytes() {
        Volume v = Trial.withFile("F");
        Trial.fill(v, 64);
        Trial.due(28, () -> v.peek(-1, 2));
        Trial.due(64, () -> v.peek(v.look() >> 17, 63));
        Trial.due(65, () -> v.write(64, 65L, 1, 9));
        Trial.due(27, () -> v.peek(-1, 2));
        int first = v.look() >> 17;
        int second = v.peek(v.peek(-1, 0), first);
        Trial.due(64, () -> v.peek(first, 63));
        Trial.due(65, () -> v.peek(second, 0));
        Trial.due(1, () -> v.cut(64));
        Trial.due(28, () -> v.peek(-1, 2));
    }

    private static Volume withEntries(int n) {
        Volume v = new Volume();
        for (int i = 0; i < n; i++) {
            int digit = i;
            Trial.due(Trial.name("" + i), () -> Trial.at(v, "" + digit).make(false, digit));
        }
        return v;
    }

    private static void eighthEntry() {
        Volume v = withEntries(7);
        Trial.due(Trial.UNSUPPORTED, () -> Trial.at(v, "a").make(false, 0));
        Trial.due(Trial.name("Z"), () -> Trial.at(v, "Z").make(false, 200));
        Trial.due("1 90 0 0 0 0 0 200", () -> Trial.entry(v, v.peek(-1, 1), 7));
        Trial.due(200 * 256, () -> v.look());
        Trial.due(3, () -> v.write(0, 1L, 3, 201));
        Trial.due(201 * 256 + 3, () -> v.look() & 0xffff);
        Trial.due(1, () -> v.remove());
        Trial.due("0 0 0 0 0 0 0 0", () -> Trial.entry(v, v.peek(-1, 1), 7));
    }

    private static void noNinthEntry() {
        Volume v = withEntries(8);
        String before = v.disk();
        Trial.due(Trial.UNSUPPORTED, () -> Trial.at(v, "Z").make(false, 0));
        Trial.due(before, () -> v.disk());
        Trial.due(-1, () -> v.look());
        Trial.due(7 * 256, () -> Trial.at(v, "7").look());
        Trial.due(1, () -> Trial.at(v, "0").remove());
        Trial.due(Trial.name("Z"), () -> Trial.at(v, "Z").make(false, 0));
        Trial.due("1 90 0 0 0 0 0 0", () -> Trial.entry(v, v.peek(-1, 1), 0));
    }

    private static void firstClusterOfNoBytes() {
        Volume v = Trial.withFile("F");
        Trial.due(256, () -> v.look());
        Trial.due(-1, () -> v.read(0));
        Trial.due(1, () -> v.write(0, 7L, 1, 1));
        Trial.due(true, () -> v.look() >> 17 >= 2);
        Trial.due(1, () -> v.cut(0));
        Trial.due(256, () -> v.look());
        Trial.due(29, () -> v.peek(-1, 2));
    }

    private static void sumsWrapAround() {
        int[][] names = {{63, 1, 1, 255}, {63, 1, 2, 0}, {63, 2, 1, 1}, {64, 1, 1, 3}, {255, 255, 255, 249}, {1, 1, 1, 7}};
        for (int[] name : names) {
            Volume v = Trial.at(new Volume(), "long");
            Trial.putEntry(v, 2, 0, 15, 65, name[3], 'l', 'o', 'n', 'g', 0);
            Trial.putEntry(v, 2, 1, 1, name[0], name[1], name[2], 0, 0, 0, 5);
            Trial.due(5 * 256, () -> v.look());
            Trial.due(0, () -> v.repair());
            v.poke(2, 2, (name[3] + 1) & 255);
            Trial.due(-1, () -> v.look());
        }
        Volume made = Trial.at(new Volume(), "0z");
        made.make(false, 0);
        Trial.due((4 * '0' + 2 * '~' + '1') % 256, () -> made.peek(3, 2));
    }

    private static void ordersOfLongEntries() {
        int sum = (4 * 'Q' + 2 * '~' + '1') & 255;
        for (int order = 0; order < 256; order++) {
            Volume v = new Volume();
            Trial.putEntry(v, 2, 1, 15, order, sum, 'a', 'b');
            Trial.putEntry(v, 2, 2, 1, 'Q', '~', '1', 0, 0, 0, 5);
            Trial.putEntry(v, 2, 3, 15, order, sum, 'f');
            Trial.putEntry(v, 2, 4, 15, 1, sum, 'a', 'b', 'c', 'd', 'e');
            Trial.putEntry(v, 2, 5, 1, 'Q', '~', '1', 0, 0, 0, 6);
            Trial.putEntry(v, 2, 6, 15, order, sum, 'g', 'h');
            Trial.due(order == 65 ? 5 * 256 : -1, () -> Trial.at(v, "ab").look());
            Trial.due(order == 66 ? 6 * 256 : -1, () -> Trial.at(v, "abcdef").look());
            Trial.due(-1, () -> Trial.at(v, "abcde").look());
            Trial.due(-1, () -> Trial.at(v, "gh").look());
        }
    }

    private static void longEntriesAtTheStartOfADirectory() {
        int sum = (4 * 'Q' + 2 * '~' + '1') & 255;
        Volume none = new Volume();
        Trial.putEntry(none, 2, 0, 1, 'Q', '~', '1', 0, 0, 0, 5);
        Trial.due(5 * 256, () -> Trial.at(none, "Q~1").look());
        Trial.due(0, () -> none.repair());
        Trial.due(1, () -> none.remove());
        Volume half = new Volume();
        Trial.putEntry(half, 2, 0, 15, 1, sum, 'a', 'b', 'c', 'd', 'e');
        Trial.putEntry(half, 2, 1, 1, 'Q', '~', '1', 0, 0, 0, 5);
        Trial.due(-1, () -> Trial.at(half, "abcde").look());
        Trial.due(5 * 256, () -> Trial.at(half, "Q~1").look());
        Trial.due(8, () -> half.repair());
        Volume whole = new Volume();
        Trial.putEntry(whole, 2, 0, 15, 66, sum, 'f');
        Trial.putEntry(whole, 2, 1, 15, 1, sum, 'a', 'b', 'c', 'd', 'e');
        Trial.putEntry(whole, 2, 2, 1, 'Q', '~', '1', 0, 0, 0, 5);
        Trial.due(5 * 256, () -> Trial.at(whole, "abcdef").look());
        Trial.due(0, () -> whole.repair());
        Trial.due(1, () -> whole.remove());
        Trial.due("0 0 0", () -> Trial.bytes(whole, whole.peek(-1, 1), 0, 3));
    }

    /** What stands at the end of the cluster before is none of its entries. */
    private static void longEntriesDoNotReachBackOverADirectory() {
        int sum = (4 * 'Q' + 2 * '~' + '1') & 255;
        Volume v = new Volume();
        Trial.putEntry(v, 2, 0, 2, 'D', 0, 0, 9, 0, 0, 0);
        Trial.putEntry(v, 8, 7, 15, 65, sum, 'a', 'b');
        Trial.putEntry(v, 9, 0, 1, 'Q', '~', '1', 0, 0, 0, 5);
        Trial.due(-1, () -> Trial.at(v, "D/ab").look());
        Trial.due(1, () -> Trial.at(v, "D/Q~1").remove());
        Trial.due(15, () -> v.peek(8, 56));
    }

    private static Volume withChain(int size) {
        Volume v = Trial.at(new Volume(), "F");
        Trial.putEntry(v, 2, 0, 1, 'F', 0, 0, 20, size, 0, 0);
        Trial.put(v, 0, 20, 21, 22, 23, 24, 25, 255);
        for (int c = 20; c <= 25; c++) {
            v.poke(c, 0, c);
            v.poke(c, 63, 100 + c);
        }
        return v;
    }

    private static void asManyClustersAsTheSizeNeeds() {
        int[][] sizes = {{0, 0}, {1, 1}, {63, 1}, {64, 1}, {65, 2}, {128, 2}, {129, 3}, {192, 3}, {193, 4}, {255, 4}};
        for (int[] sizeAndNeed : sizes) {
            Volume v = withChain(sizeAndNeed[0]);
            Trial.due(1, () -> v.remove());
            String due = "0 0 0 0".substring(0, Math.max(0, 2 * sizeAndNeed[1] - 1));
            Trial.due(due, () -> Trial.bytes(v, 1, 20, sizeAndNeed[1]));
            Trial.due(21 + sizeAndNeed[1], () -> v.peek(1, 20 + sizeAndNeed[1]));
        }
    }

    private static void asManyBytesAsTheSize() {
        for (int size : new int[] {0, 1, 63, 64, 65, 128, 129, 192, 193, 255}) {
            Volume v = withChain(size);
            int[][] bytes = {{0, 20}, {63, 120}, {64, 21}, {127, 121}, {128, 22}, {191, 122}, {192, 23}};
            for (int[] placeAndByte : bytes) {
                Trial.due(placeAndByte[0] < size ? placeAndByte[1] : -1, () -> v.read(placeAndByte[0]));
            }
            Trial.due(size == 0 ? -1 : v.peek(20 + (size - 1) / 64, (size - 1) % 64), () -> v.read(size - 1));
            Trial.due(-1, () -> v.read(size));
            Trial.due(-1, () -> v.read(-1));
        }
    }

    private static void fewerBytesIfTheChainEndsBefore() {
        for (int end : NO_CLUSTERS) {
            for (int whole = 1; whole <= 3; whole++) {
                int clusters = whole;
                Volume v = withChain(255);
                v.poke(0, 19 + clusters, end);
                Trial.due(119 + clusters, () -> v.read(64 * clusters - 1));
                Trial.due(-1, () -> v.read(64 * clusters));
                Trial.due(255 + 20 * 131072, () -> v.look());
            }
            Volume none = withChain(255);
            none.poke(2, 4, end);
            Trial.due(-1, () -> none.read(0));
        }
    }

    /** Each of them answers as the document says, up to the last. */
    private static void fiveHundredAndTwelveCalls() {
        Volume v = Trial.at(new Volume(), "F");
        Trial.due(Trial.name("F"), () -> v.make(false, 0));
        for (int i = 0; i < 254; i++) {
            int b = i;
            int n = i % 8 + 1;
            Trial.due(n, () -> v.write(0, b, n, b));
            Trial.due(n, () -> v.cut(0));
        }
        Trial.due(29, () -> v.peek(-1, 2));
        Trial.due(512, () -> v.calls());
    }
}
