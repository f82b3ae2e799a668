/** The edges that promise 15 names: numbers of clusters, depths, sizes, kinds, orders. */
final class RepairEdgesTest {
    private static final int SUM = (4 * 'Q' + 2 * '~' + '1') & 255;
    private static final String FREED = "0 0 0 0 0 0 0 0";

    public static void main(String[] args) {
        kindsOfEntries();
        byteOfTheRoot();
        firstClustersOfDirectories();
        bytesOfADirectorysCluster();
        depths();
        directoriesUsedAlready();
        firstClustersOfFiles();
        nextClustersOfFiles();
        sizesAndChains();
        chainsUsedAlready();
        lastClusterOfTheTable();
        clustersThatNobodyUses();
        otherTableAndLostDirectories();
        ordersOfLongEntries();
        sumsOfLongEntries();
        longEntriesBeforeEachKind();
        longEntriesAtTheEnd();
        fullDirectories();
        countOfBytes();
        withoutWrites();
        Trial.end();
    }

    private static void kindsOfEntries() {
        for (int kind = 0; kind < 256; kind++) {
            for (int slot : new int[] {0, 7}) {
                Volume v = new Volume();
                Trial.putEntry(v, 2, slot, kind, 'A', 'B', 'C', 9, 1, 2, 3);
                v.poke(0, 9, 255);
                String due = kind == 0 || kind == 1 ? kind + " 65 66 67 9 1 2 3" : kind == 2 ? "2 65 66 67 9 0 2 3" : FREED;
                int bytes = kind == 0 ? 1 : kind == 1 ? 0 : kind == 2 ? 1 : 9;
                Trial.due(bytes, () -> v.repair());
                Trial.due(due, () -> Trial.entry(v, 2, slot));
                Trial.due(0, () -> v.repair());
            }
        }
    }

    private static void byteOfTheRoot() {
        for (int b = 0; b < 256; b++) {
            Volume v = new Volume();
            v.poke(0, 2, b);
            Trial.due(b == 255 ? 0 : 1, () -> v.repair());
            Trial.due(255, () -> v.peek(0, 2));
        }
    }

    private static void firstClustersOfDirectories() {
        for (int first = 0; first < 256; first++) {
            Volume v = new Volume();
            Trial.putEntry(v, 2, 0, 2, 'D', 0, 0, first, 0, 0, 1);
            boolean right = first >= 3 && first <= 31;
            Trial.due(right ? 1 : first == 0 ? 3 : 4, () -> v.repair());
            int cluster = first;
            Trial.due(right ? "2 68 0 0 " + first + " 0 0 1" : FREED, () -> Trial.entry(v, 2, 0));
            Trial.due(true, () -> !right || v.peek(0, cluster) == 255);
            Trial.due(right ? 28 : 29, () -> v.peek(-1, 2));
        }
    }

    private static void bytesOfADirectorysCluster() {
        for (int b = 0; b < 256; b++) {
            Volume v = new Volume();
            Trial.putEntry(v, 2, 0, 2, 'D', 0, 0, 9, 0, 0, 0);
            v.poke(0, 9, b);
            Trial.due(b == 254 ? 3 : b == 255 ? 0 : 1, () -> v.repair());
            Trial.due(b == 254 ? 254 : 255, () -> v.peek(0, 9));
            Trial.due(b == 254 ? FREED : "2 68 0 0 9 0 0 0", () -> Trial.entry(v, 2, 0));
        }
    }

    /** Directories one in another, the first deep in slot 7, each beside a file and a stray long entry. */
    private static void depths() {
        for (int deepest = 1; deepest <= 7; deepest++) {
            Volume v = new Volume();
            int cluster = 2;
            for (int depth = 1; depth <= deepest; depth++) {
                Trial.putEntry(v, cluster, 7, 2, 'D', 0, 0, cluster + 1, 0, 0, 0);
                Trial.putEntry(v, cluster, 0, 1, 'F', 0, 0, 0, 1, 0, 0);
                v.poke(0, cluster + 1, 255);
                cluster++;
            }
            v.poke(cluster, 16, 15);
            int last = cluster;
            int files = Math.min(deepest, 5);
            int lost = Math.max(0, deepest - 4);
            int stray = deepest <= 4 ? 1 : 0;
            Trial.due(files + (lost > 0 ? 3 + lost : 0) + stray, () -> v.repair());
            Trial.due(29 - Math.min(deepest, 4), () -> v.peek(-1, 2));
            Trial.due(deepest >= 5 ? FREED : "2 68 0 0 " + (deepest + 2) + " 0 0 0",
                    () -> Trial.entry(v, Math.min(1 + files, last), 7));
            Trial.due(stray == 1 ? 0 : 15, () -> v.peek(last, 16));
        }
    }

    private static void directoriesUsedAlready() {
        Volume v = new Volume();
        Trial.putEntry(v, 2, 0, 2, 'A', 0, 0, 9, 0, 0, 0);
        Trial.putEntry(v, 9, 0, 2, 'B', 0, 0, 9, 0, 0, 0);
        Trial.putEntry(v, 9, 1, 2, 'C', 0, 0, 2, 0, 0, 0);
        Trial.putEntry(v, 9, 2, 2, 'D', 0, 0, 10, 0, 0, 0);
        Trial.putEntry(v, 10, 0, 2, 'E', 0, 0, 9, 0, 0, 0);
        Trial.putEntry(v, 2, 1, 2, 'F', 0, 0, 10, 0, 0, 0);
        Trial.put(v, 0, 9, 255, 255);
        Trial.due(4 * 3, () -> v.repair());
        Trial.due("2 65 0 0 9 0 0 0", () -> Trial.entry(v, 2, 0));
        Trial.due(FREED, () -> Trial.entry(v, 2, 1));
        Trial.due(FREED, () -> Trial.entry(v, 9, 0));
        Trial.due(FREED, () -> Trial.entry(v, 9, 1));
        Trial.due("2 68 0 0 10 0 0 0", () -> Trial.entry(v, 9, 2));
        Trial.due(FREED, () -> Trial.entry(v, 10, 0));
    }

    private static void firstClustersOfFiles() {
        for (int first = 0; first < 256; first++) {
            Volume v = new Volume();
            Trial.putEntry(v, 2, 0, 1, 'F', 0, 0, first, 64, 0, 1);
            boolean right = first >= 3 && first <= 31;
            Trial.due(right ? 1 : first == 0 ? 1 : 2, () -> v.repair());
            Trial.due(right ? "1 70 0 0 " + first + " 64 0 1" : "1 70 0 0 0 0 0 1", () -> Trial.entry(v, 2, 0));
            Trial.due(right ? 28 : 29, () -> v.peek(-1, 2));
        }
    }

    private static void nextClustersOfFiles() {
        for (int next = 0; next < 256; next++) {
            Volume v = new Volume();
            Trial.putEntry(v, 2, 0, 1, 'F', 0, 0, 9, 128, 0, 0);
            Trial.put(v, 0, 9, next);
            v.poke(0, 30, 254);
            boolean right = next >= 3 && next <= 31 && next != 9 && next != 30;
            boolean first = next != 254;
            Trial.due(!first ? 2 : right ? 1 : next == 255 ? 1 : 2, () -> v.repair());
            int size = !first ? 0 : right ? 128 : 64;
            Trial.due("1 70 0 0 " + (first ? 9 : 0) + " " + size + " 0 0", () -> Trial.entry(v, 2, 0));
            Trial.due(!first ? 254 : right ? next : 255, () -> v.peek(0, 9));
            Trial.due(254, () -> v.peek(0, 30));
        }
    }

    private static void sizesAndChains() {
        int[] sizes = {0, 1, 63, 64, 65, 127, 128, 129, 191, 192, 193, 254, 255};
        for (int links = 0; links <= 6; links++) {
            for (int size : sizes) {
                Volume v = new Volume();
                int first = links == 0 ? 0 : 20;
                Trial.putEntry(v, 2, 0, 1, 'F', 0, 0, first, size, 0, 0);
                for (int i = 0; i < links; i++) {
                    v.poke(0, 20 + i, i == links - 1 ? 255 : 21 + i);
                }
                int kept = Math.min(size, 64 * Math.min(links, 3));
                int needed = (kept + 63) / 64;
                int bytes = (kept == size ? 0 : 1) + (needed == 0 && links > 0 ? 1 : 0)
                        + links - needed + (needed > 0 && needed < links ? 1 : 0);
                Trial.due(bytes, () -> v.repair());
                Trial.due("1 70 0 0 " + (needed == 0 ? 0 : 20) + " " + kept + " 0 0", () -> Trial.entry(v, 2, 0));
                String[] table = {"0 0 0 0 0 0", "255 0 0 0 0 0", "21 255 0 0 0 0", "21 22 255 0 0 0"};
                Trial.due(table[needed], () -> Trial.bytes(v, 0, 20, 6));
                Trial.due(0, () -> v.repair());
            }
        }
    }

    /** The second file meets the first one's chain at its first, second or third cluster. */
    private static void chainsUsedAlready() {
        for (int own = 0; own <= 3; own++) {
            for (int taken = 1; taken <= 3; taken++) {
                Volume v = new Volume();
                Trial.putEntry(v, 2, 0, 1, 'F', 0, 0, 20, 64 * taken, 0, 0);
                Trial.put(v, 0, 20, 21, 22, 255);
                Trial.putEntry(v, 2, 1, 1, 'G', 0, 0, own == 0 ? 20 : 10, 192, 0, 0);
                for (int i = 0; i < own; i++) {
                    v.poke(0, 10 + i, i == own - 1 ? 20 : 11 + i);
                }
                v.repair();
                int links = own;
                int size = 64 * taken;
                Trial.due("1 70 0 0 20 " + size + " 0 0", () -> Trial.entry(v, 2, 0));
                Trial.due("1 71 0 0 " + (own == 0 ? 0 : 10) + " " + 64 * own + " 0 0", () -> Trial.entry(v, 2, 1));
                Trial.due(29 - taken - own, () -> v.peek(-1, 2));
                Trial.due(true, () -> links == 0 || v.peek(0, 9 + links) == 255);
            }
        }
    }

    private static void lastClusterOfTheTable() {
        Volume v = new Volume();
        Trial.putEntry(v, 2, 0, 1, 'F', 0, 0, 31, 192, 0, 0);
        v.poke(0, 31, 3);
        v.poke(0, 3, 30);
        v.poke(0, 30, 31);
        Trial.due(1, () -> v.repair());
        Trial.due("3 255", () -> v.peek(0, 31) + " " + v.peek(0, 30));
        Trial.due("1 70 0 0 31 192 0 0", () -> Trial.entry(v, 2, 0));
    }

    private static void clustersThatNobodyUses() {
        for (int b = 0; b < 256; b++) {
            Volume v = new Volume();
            for (int k : new int[] {0, 1, 3, 31}) {
                v.poke(0, k, b);
            }
            int left = b;
            int due = b == 254 ? 254 : 0;
            Trial.due(b == 254 || b == 0 ? 0 : 2, () -> v.repair());
            Trial.due(due + " " + due, () -> v.peek(0, 3) + " " + v.peek(0, 31));
            Trial.due(left + " " + left, () -> v.peek(0, 0) + " " + v.peek(0, 1));
        }
    }

    private static void otherTableAndLostDirectories() {
        Volume v = Trial.at(new Volume(), "A");
        v.make(false, 0);
        for (int k = 0; k < 32; k++) {
            v.poke(0, k, 200);
        }
        Trial.putEntry(v, 9, 0, 99, 1, 2, 3, 4, 5, 6, 7);
        Trial.due(0, () -> v.repair());
        for (int k = 0; k < 32; k++) {
            int at = k;
            Trial.due(200, () -> v.peek(0, at));
        }
        Trial.due("99 1 2 3 4 5 6 7", () -> Trial.entry(v, 9, 0));
    }

    private static void ordersOfLongEntries() {
        for (int order = 0; order < 256; order++) {
            Volume v = new Volume();
            Trial.putEntry(v, 2, 0, 15, order, SUM, 'a', 'b');
            Trial.putEntry(v, 2, 1, 1, 'Q', '~', '1', 0, 0, 0, 0);
            Trial.putEntry(v, 2, 2, 15, order, SUM, 'f');
            Trial.putEntry(v, 2, 3, 15, 1, SUM, 'a', 'b', 'c', 'd', 'e');
            Trial.putEntry(v, 2, 4, 1, 'Q', '~', '1', 0, 0, 0, 0);
            v.repair();
            Trial.due(order == 65 ? 15 : 0, () -> v.peek(2, 0));
            Trial.due(order == 66 ? 15 : 0, () -> v.peek(2, 16));
            Trial.due(order == 66 ? 15 : 0, () -> v.peek(2, 24));
            Trial.due("1 1", () -> v.peek(2, 8) + " " + v.peek(2, 32));
        }
    }

    private static void sumsOfLongEntries() {
        for (int sum = 0; sum < 256; sum++) {
            Volume v = new Volume();
            Trial.putEntry(v, 2, 0, 15, 65, sum, 'a', 'b');
            Trial.putEntry(v, 2, 1, 1, 'Q', '~', '1', 0, 0, 0, 0);
            Trial.putEntry(v, 2, 2, 15, 66, sum, 'f');
            Trial.putEntry(v, 2, 3, 15, 1, SUM, 'a', 'b', 'c', 'd', 'e');
            Trial.putEntry(v, 2, 4, 1, 'Q', '~', '1', 0, 0, 0, 0);
            Trial.putEntry(v, 2, 5, 15, 66, SUM, 'f');
            Trial.putEntry(v, 2, 6, 15, 1, sum, 'a', 'b', 'c', 'd', 'e');
            Trial.putEntry(v, 2, 7, 1, 'Q', '~', '1', 0, 0, 0, 0);
            v.repair();
            int due = sum == SUM ? 15 : 0;
            for (int slot : new int[] {0, 2, 3, 5, 6}) {
                Trial.due(due, () -> v.peek(2, 8 * slot));
            }
        }
    }

    /** Only a file or a right directory has a long name. */
    private static void longEntriesBeforeEachKind() {
        for (int kind = 0; kind < 256; kind++) {
            for (int first : new int[] {2, 9}) {
                Volume v = new Volume();
                Trial.putEntry(v, 2, 0, 15, 66, SUM, 'f');
                Trial.putEntry(v, 2, 1, 15, 1, SUM, 'a', 'b', 'c', 'd', 'e');
                Trial.putEntry(v, 2, 2, kind, 'Q', '~', '1', first, 0, 0, 0);
                v.repair();
                boolean right = kind == 1 || kind == 2 && first == 9;
                Trial.due(right ? "15 66" : "0 0", () -> Trial.bytes(v, 2, 0, 2));
                Trial.due(right ? "15 1" : "0 0", () -> Trial.bytes(v, 2, 8, 2));
            }
        }
    }

    private static void longEntriesAtTheEnd() {
        for (int from = 0; from < 8; from++) {
            Volume v = new Volume();
            if (from > 0) {
                Trial.putEntry(v, 2, from - 1, 1, 'Q', '~', '1', 0, 0, 0, 0);
            }
            for (int slot = from; slot < 8; slot++) {
                Trial.putEntry(v, 2, slot, 15, slot == 7 ? 65 : 66, SUM, 1, 1, 1, 1, 1);
            }
            Trial.due(8 * (8 - from), () -> v.repair());
            for (int slot = from; slot < 8; slot++) {
                int at = slot;
                Trial.due(FREED, () -> Trial.entry(v, 2, at));
            }
            int before = from - 1;
            Trial.due(true, () -> before < 0 || v.peek(2, 8 * before) == 1);
        }
    }

    private static void fullDirectories() {
        Volume v = new Volume();
        for (int slot = 0; slot < 8; slot++) {
            Trial.putEntry(v, 2, slot, 2, 'A' + slot, 0, 0, 3 + slot, 0, 0, 0);
            v.poke(0, 3 + slot, 255);
            for (int below = 0; below < 2; below++) {
                int cluster = 11 + 2 * slot + below;
                Trial.putEntry(v, 3 + slot, 7 * below, 1, 'F', 0, 0, cluster, 64, 0, 0);
                v.poke(0, cluster, 255);
            }
        }
        Trial.due(0, () -> v.repair());
        Trial.due(5, () -> v.peek(-1, 2));
        v.poke(10, 56, 16);
        Trial.due(5, () -> v.repair());
        Trial.due(6, () -> v.peek(-1, 2));
    }

    /** A byte that was 0 already is no other one. */
    private static void countOfBytes() {
        for (int others = 1; others <= 8; others++) {
            Volume v = new Volume();
            for (int k = 0; k < others; k++) {
                v.poke(2, 24 + k, 3);
            }
            int due = others;
            Trial.due(due, () -> v.repair());
        }
        Volume all = new Volume();
        for (int slot = 0; slot < 8; slot++) {
            Trial.putEntry(all, 2, slot, 255, 255, 255, 255, 255, 255, 255, 255);
        }
        for (int c = 2; c < 32; c++) {
            all.poke(0, c, 9);
        }
        Trial.due(64 + 30, () -> all.repair());
        Trial.due(0, () -> all.repair());
    }

    private static void withoutWrites() {
        Volume v = Trial.at(new Volume(), "A");
        for (int c = 2; c < 32; c++) {
            v.spoil(c);
        }
        v.fail(1);
        v.poke(2, 0, 9);
        v.poke(0, 31, 9);
        Trial.due(2, () -> v.repair());
        Trial.due("0 0", () -> v.peek(2, 0) + " " + v.peek(0, 31));
        Trial.due("0 2 29 0 0", () -> Trial.bytes(v, -1, 0, 5));
        Trial.due(-2, () -> v.make(false, 0));
        Trial.due(Trial.STATE, () -> v.repair());
        v.poke(2, 0, 9);
        Trial.due(Trial.STATE, () -> v.repair());
        Trial.due(9, () -> v.peek(2, 0));
        v.mount();
        Trial.due(1, () -> v.repair());
    }
}
