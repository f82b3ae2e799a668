/** Promise 15: repair. */
final class RepairTest {
    private static final int SUM = (4 * 'Q' + 2 * '~' + '1') & 255;

    public static void main(String[] args) {
        soundDisk();
        whileDown();
        rootByte();
        lostClusters();
        tableBytesThatMeanNothing();
        kindsThatAreNone();
        freeEntriesStay();
        directoriesThatAreNotRight();
        rightDirectory();
        directoryFiveDeep();
        chainEnds();
        chainOfThree();
        chainLongerThanTheSize();
        chainsThatMeet();
        chainInARing();
        clustersGivenBackAreUsable();
        withoutAnyNeeded();
        throughFreeClusters();
        directoryBeforeFile();
        longEntriesKept();
        longEntriesFreed();
        longEntriesOfWrongEntries();
        longEntriesAtTheEnd();
        longEntriesBelow();
        whatIsInADirectoryComesFirst();
        whatTheBootRecordTells();
        spoiltAndBadClusters();
        countsBytes();
        Trial.end();
    }

    private static void soundDisk() {
        Volume v = new Volume();
        for (String path : new String[] {"D", "D/E", "D/E/F", "D/E/F/longername"}) {
            Trial.at(v, path).make(true, 1);
        }
        Trial.at(v, "readme").make(false, 1);
        Trial.fill(v, 192);
        Trial.at(v, "D/a").make(false, 1);
        Trial.fill(v, 65);
        String before = Trial.disk(v);
        Trial.due(0, () -> v.repair());
        Trial.due(before, () -> Trial.disk(v));
    }

    private static void whileDown() {
        Volume v = Trial.at(new Volume(), "A");
        v.poke(0, 9, 9);
        v.fail(1);
        v.make(false, 0);
        Trial.due(Trial.STATE, () -> v.repair());
        Trial.due(9, () -> v.peek(0, 9));
        v.mount();
        Trial.due(1, () -> v.repair());
        Trial.due(0, () -> v.repair());
    }

    private static void rootByte() {
        for (int b : new int[] {0, 1, 2, 9, 32, 254}) {
            Volume v = new Volume();
            v.poke(0, 2, b);
            Trial.due(1, () -> v.repair());
            Trial.due(255, () -> v.peek(0, 2));
        }
    }

    private static void lostClusters() {
        Volume v = new Volume();
        Trial.put(v, 0, 3, 4, 255, 1, 32, 253, 5);
        v.poke(0, 31, 31);
        Trial.put(v, 1, 3, 9, 9);
        Trial.due(7, () -> v.repair());
        Trial.due(29, () -> v.peek(-1, 2));
        Trial.due("9 9", () -> Trial.bytes(v, 1, 3, 2));
    }

    private static void tableBytesThatMeanNothing() {
        Volume v = new Volume();
        Trial.put(v, 0, 0, 77, 78);
        Trial.put(v, 5, 0, 1, 2, 3);
        Trial.due(0, () -> v.repair());
        Trial.due("77 78", () -> Trial.bytes(v, 0, 0, 2));
        Trial.due("1 2 3", () -> Trial.bytes(v, 5, 0, 3));
    }

    private static void kindsThatAreNone() {
        for (int kind : new int[] {3, 7, 14, 16, 66, 255}) {
            Volume v = new Volume();
            Trial.putEntry(v, 2, 0, kind, 'A', 'B', 'C', 5, 6, 7, 8);
            Trial.putEntry(v, 2, 7, kind, 0, 0, 0, 0, 0, 0, 1);
            Trial.due(10, () -> v.repair());
            Trial.due("0 0 0 0 0 0 0 0", () -> Trial.entry(v, 2, 0));
            Trial.due("0 0 0 0 0 0 0 0", () -> Trial.entry(v, 2, 7));
        }
    }

    private static void freeEntriesStay() {
        Volume v = new Volume();
        Trial.putEntry(v, 2, 3, 0, 'A', 'B', 'C', 5, 6, 7, 8);
        Trial.due(0, () -> v.repair());
        Trial.due("0 65 66 67 5 6 7 8", () -> Trial.entry(v, 2, 3));
    }

    private static void directoriesThatAreNotRight() {
        for (int first : new int[] {0, 1, 32, 254, 255, 2}) {
            Volume v = new Volume();
            Trial.putEntry(v, 2, 0, 2, 'A', 'B', 'C', first, 6, 7, 8);
            Trial.due(first == 0 ? 7 : 8, () -> v.repair());
            Trial.due("0 0 0 0 0 0 0 0", () -> Trial.entry(v, 2, 0));
        }
        Volume bad = new Volume();
        Trial.putEntry(bad, 2, 0, 2, 'A', 0, 0, 9, 0, 0, 0);
        bad.poke(0, 9, 254);
        Trial.due(3, () -> bad.repair());
        Trial.due(254, () -> bad.peek(0, 9));
        Volume twice = new Volume();
        Trial.putEntry(twice, 2, 0, 2, 'A', 0, 0, 9, 0, 0, 0);
        Trial.putEntry(twice, 2, 1, 2, 'B', 0, 0, 9, 0, 0, 0);
        Trial.due(4, () -> twice.repair());
        Trial.due("2 65 0 0 9 0 0 0", () -> Trial.entry(twice, 2, 0));
        Trial.due("0 0 0 0 0 0 0 0", () -> Trial.entry(twice, 2, 1));
        Trial.due(255, () -> twice.peek(0, 9));
    }

    private static void rightDirectory() {
        for (int first : new int[] {3, 31}) {
            Volume v = new Volume();
            Trial.putEntry(v, 2, 5, 2, 1, 0, 200, first, 6, 7, 8);
            v.poke(0, first, 9);
            v.poke(first, 8, 99);
            Trial.due(3, () -> v.repair());
            Trial.due("2 1 0 200 " + first + " 0 7 8", () -> Trial.entry(v, 2, 5));
            Trial.due(255, () -> v.peek(0, first));
            Trial.due(0, () -> v.peek(first, 8));
        }
    }

    private static void directoryFiveDeep() {
        Volume v = new Volume();
        for (int depth = 1; depth <= 5; depth++) {
            Trial.putEntry(v, depth + 1, 0, 2, 'D', 0, 0, depth + 2, 0, 0, 0);
            v.poke(0, depth + 2, 255);
        }
        Trial.putEntry(v, 6, 1, 1, 'F', 0, 0, 20, 5, 0, 0);
        Trial.putEntry(v, 7, 0, 7);
        Trial.due(3 + 1 + 1, () -> v.repair());
        Trial.due("2 68 0 0 6 0 0 0", () -> Trial.entry(v, 5, 0));
        Trial.due("0 0 0 0 0 0 0 0", () -> Trial.entry(v, 6, 0));
        Trial.due("1 70 0 0 20 5 0 0", () -> Trial.entry(v, 6, 1));
        Trial.due("255 255 255 255 255 0", () -> Trial.bytes(v, 0, 2, 6));
        Trial.due(255, () -> v.peek(0, 20));
        Trial.due(7, () -> v.peek(7, 0));
    }

    /** A disk with the file F of some size from cluster 9 on; the table's bytes from 9 on are told. */
    private static Volume withChain(int size, int... table) {
        Volume v = new Volume();
        Trial.putEntry(v, 2, 0, 1, 'F', 0, 0, 9, size, 3, 4);
        Trial.put(v, 0, 9, table);
        return v;
    }

    private static void chainEnds() {
        for (int end : new int[] {0, 1, 2, 9, 32, 253}) {
            Volume v = withChain(130, 10, end);
            Trial.due(2, () -> v.repair());
            Trial.due("1 70 0 0 9 128 3 4", () -> Trial.entry(v, 2, 0));
            Trial.due("10 255 0", () -> Trial.bytes(v, 0, 9, 3));
        }
        Volume bad = withChain(130, 10, 11, 254);
        Trial.due(2, () -> bad.repair());
        Trial.due("10 255 254", () -> Trial.bytes(bad, 0, 9, 3));
        Volume edge = withChain(130, 31);
        edge.poke(0, 31, 3);
        edge.poke(0, 3, 255);
        Trial.due(0, () -> edge.repair());
    }

    private static void chainOfThree() {
        Volume v = withChain(255, 10, 11, 12, 13, 255);
        Trial.due(4, () -> v.repair());
        Trial.due("1 70 0 0 9 192 3 4", () -> Trial.entry(v, 2, 0));
        Trial.due("10 11 255 0 0", () -> Trial.bytes(v, 0, 9, 5));
        Volume w = withChain(192, 10, 11, 255);
        Trial.due(0, () -> w.repair());
        Volume x = withChain(193, 10, 11, 255);
        Trial.due(1, () -> x.repair());
    }

    private static void chainLongerThanTheSize() {
        int[][] cases = {{64, 1}, {65, 2}, {1, 1}, {128, 2}, {129, 3}};
        for (int[] sizeAndNeed : cases) {
            Volume v = withChain(sizeAndNeed[0], 10, 11, 255);
            int need = sizeAndNeed[1];
            Trial.due(need == 3 ? 0 : need == 2 ? 2 : 3, () -> v.repair());
            String due = need == 3 ? "10 11 255" : need == 2 ? "10 255 0" : "255 0 0";
            Trial.due(due, () -> Trial.bytes(v, 0, 9, 3));
            Trial.due(sizeAndNeed[0], () -> v.peek(2, 5));
        }
    }

    private static void chainsThatMeet() {
        Volume v = withChain(128, 10, 255, 10);
        Trial.putEntry(v, 2, 1, 1, 'G', 0, 0, 11, 128, 0, 0);
        Trial.putEntry(v, 2, 2, 1, 'H', 0, 0, 9, 128, 0, 0);
        Trial.due(2 + 2, () -> v.repair());
        Trial.due("10 255 255", () -> Trial.bytes(v, 0, 9, 3));
        Trial.due("1 71 0 0 11 64 0 0", () -> Trial.entry(v, 2, 1));
        Trial.due("1 72 0 0 0 0 0 0", () -> Trial.entry(v, 2, 2));
    }

    private static void chainInARing() {
        Volume v = withChain(192, 10, 9);
        Trial.due(2, () -> v.repair());
        Trial.due("10 255", () -> Trial.bytes(v, 0, 9, 2));
        Volume w = withChain(192, 9);
        Trial.due(2, () -> w.repair());
        Trial.due(64, () -> w.peek(2, 5));
    }

    private static void clustersGivenBackAreUsable() {
        Volume v = withChain(64, 10, 11, 255);
        Trial.putEntry(v, 2, 1, 1, 'G', 0, 0, 10, 128, 0, 0);
        Trial.due(1, () -> v.repair());
        Trial.due("255 11 255", () -> Trial.bytes(v, 0, 9, 3));
        Volume w = withChain(0, 10, 255);
        Trial.putEntry(w, 2, 1, 2, 'D', 0, 0, 9, 0, 0, 0);
        Trial.due(1 + 1 + 1, () -> w.repair());
        Trial.due("1 70 0 0 0 0 3 4", () -> Trial.entry(w, 2, 0));
        Trial.due("2 68 0 0 9 0 0 0", () -> Trial.entry(w, 2, 1));
        Trial.due("255 0", () -> Trial.bytes(w, 0, 9, 2));
    }

    private static void withoutAnyNeeded() {
        Volume v = withChain(0, 10, 255);
        Trial.due(3, () -> v.repair());
        Trial.due("1 70 0 0 0 0 3 4", () -> Trial.entry(v, 2, 0));
        for (int first : new int[] {0, 1, 2, 32, 255}) {
            Volume w = withChain(100, 0);
            w.poke(2, 4, first);
            Trial.due(first == 0 ? 1 : 2, () -> w.repair());
            Trial.due("1 70 0 0 0 0 3 4", () -> Trial.entry(w, 2, 0));
        }
        Volume bad = withChain(100, 254);
        Trial.due(2, () -> bad.repair());
        Trial.due(254, () -> bad.peek(0, 9));
        Trial.due("1 70 0 0 0 0 3 4", () -> Trial.entry(bad, 2, 0));
    }

    private static void throughFreeClusters() {
        Volume v = withChain(100, 10, 0);
        Trial.due(1, () -> v.repair());
        Trial.due("10 255", () -> Trial.bytes(v, 0, 9, 2));
        Volume w = withChain(10, 0);
        Trial.due(1, () -> w.repair());
    }

    private static void directoryBeforeFile() {
        Volume v = new Volume();
        Trial.putEntry(v, 2, 0, 2, 'D', 0, 0, 9, 0, 0, 0);
        Trial.putEntry(v, 2, 1, 1, 'F', 0, 0, 9, 10, 0, 0);
        v.poke(0, 9, 255);
        Trial.due(2, () -> v.repair());
        Volume w = new Volume();
        Trial.putEntry(w, 2, 0, 1, 'F', 0, 0, 9, 10, 0, 0);
        Trial.putEntry(w, 2, 1, 2, 'D', 0, 0, 9, 0, 0, 0);
        w.poke(0, 9, 255);
        Trial.due(3, () -> w.repair());
    }

    private static void longEntriesKept() {
        Volume v = new Volume();
        Trial.putEntry(v, 2, 0, 15, 66, SUM, 0, 0, 0, 0, 9);
        Trial.putEntry(v, 2, 1, 15, 1, SUM, 0, 0, 0, 0, 0);
        Trial.putEntry(v, 2, 2, 1, 'Q', '~', '1', 0, 0, 0, 0);
        Trial.putEntry(v, 2, 3, 15, 65, SUM, 200, 0, 0, 0, 0);
        Trial.putEntry(v, 2, 4, 2, 'Q', '~', '1', 9, 0, 0, 0);
        v.poke(0, 9, 255);
        Trial.due(0, () -> v.repair());
    }

    private static void longEntriesFreed() {
        int[][][] before = {
            {{15, 1, SUM}},
            {{15, 66, SUM}},
            {{15, 65, SUM + 1}},
            {{15, 2, SUM}, {15, 1, SUM}},
            {{15, 65, SUM}, {15, 1, SUM}},
            {{15, 66, SUM + 1}, {15, 1, SUM}},
            {{15, 66, SUM}, {15, 1, SUM + 1}},
            {{15, 66, SUM}, {15, 66, SUM}},
            {{15, 66, SUM}, {15, 2, SUM}},
            {{0, 66, SUM}, {15, 1, SUM}},
        };
        for (int[][] rows : before) {
            Volume v = new Volume();
            int bytes = 0;
            for (int i = 0; i < rows.length; i++) {
                Trial.putEntry(v, 2, 3 + i, rows[i]);
                bytes += rows[i][0] == 15 ? 3 : 0;
            }
            Trial.putEntry(v, 2, 3 + rows.length, 1, 'Q', '~', '1', 0, 0, 0, 0);
            int due = bytes;
            Trial.due(due, () -> v.repair());
            Trial.due(rows[0][0] == 15 ? 0 : 66, () -> v.peek(2, 25));
            Trial.due(81, () -> v.peek(2, 8 * (3 + rows.length) + 1));
        }
        extraLongEntriesFreed();
    }

    private static void extraLongEntriesFreed() {
        Volume v = new Volume();
        Trial.putEntry(v, 2, 0, 15, 66, SUM, 'a');
        Trial.putEntry(v, 2, 1, 15, 65, SUM, 'a');
        Trial.putEntry(v, 2, 2, 1, 'Q', '~', '1', 0, 0, 0, 0);
        Trial.putEntry(v, 2, 3, 15, 65, SUM, 'b');
        Trial.putEntry(v, 2, 4, 15, 66, SUM, 'b');
        Trial.putEntry(v, 2, 5, 15, 1, SUM, 'b');
        Trial.putEntry(v, 2, 6, 1, 'Q', '~', '1', 0, 0, 0, 0);
        Trial.due(8, () -> v.repair());
        Trial.due("0 0 0 0 0 0 0 0", () -> Trial.entry(v, 2, 0));
        Trial.due("15 65", () -> Trial.bytes(v, 2, 8, 2));
        Trial.due("0 0 0 0 0 0 0 0", () -> Trial.entry(v, 2, 3));
        Trial.due("15 66", () -> Trial.bytes(v, 2, 32, 2));
        Trial.due("15 1", () -> Trial.bytes(v, 2, 40, 2));
    }

    private static void longEntriesOfWrongEntries() {
        Volume v = new Volume();
        Trial.putEntry(v, 2, 0, 15, 65, SUM);
        Trial.putEntry(v, 2, 1, 2, 'Q', '~', '1', 0, 0, 0, 0);
        Trial.putEntry(v, 2, 2, 15, 65, SUM);
        Trial.putEntry(v, 2, 3, 7, 'Q', '~', '1', 0, 0, 0, 0);
        Trial.putEntry(v, 2, 4, 15, 65, SUM);
        Trial.putEntry(v, 2, 5, 0, 'Q', '~', '1', 0, 0, 0, 0);
        Trial.due(3 * 3 + 2 * 4, () -> v.repair());
        for (int slot = 0; slot < 5; slot++) {
            int free = slot;
            Trial.due("0 0 0 0 0 0 0 0", () -> Trial.entry(v, 2, free));
        }
        Trial.due("0 81 126 49 0 0 0 0", () -> Trial.entry(v, 2, 5));
    }

    private static void longEntriesAtTheEnd() {
        Volume v = new Volume();
        Trial.putEntry(v, 2, 5, 1, 'Q', '~', '1', 0, 0, 0, 0);
        Trial.putEntry(v, 2, 6, 15, 66, SUM);
        Trial.putEntry(v, 2, 7, 15, 1, SUM);
        Trial.due(6, () -> v.repair());
        Volume w = new Volume();
        for (int slot = 0; slot < 8; slot++) {
            Trial.putEntry(w, 2, slot, 15, 65, SUM, 1, 1, 1, 1, 1);
        }
        Trial.due(64, () -> w.repair());
        Trial.due(0, () -> w.repair());
    }

    private static void longEntriesBelow() {
        Volume v = new Volume();
        Trial.putEntry(v, 2, 0, 15, 65, SUM, 'd');
        Trial.putEntry(v, 2, 1, 2, 'Q', '~', '1', 9, 0, 0, 0);
        Trial.putEntry(v, 9, 0, 15, 65, SUM, 'e');
        Trial.putEntry(v, 9, 1, 1, 'Q', '~', '1', 0, 0, 0, 0);
        Trial.putEntry(v, 9, 2, 15, 65, SUM, 'e');
        v.poke(0, 9, 255);
        Trial.due(4, () -> v.repair());
        Trial.due("15 65", () -> Trial.bytes(v, 9, 0, 2));
        Trial.due("15 65", () -> Trial.bytes(v, 2, 0, 2));
        Trial.due(0, () -> v.peek(9, 16));
    }

    private static void whatIsInADirectoryComesFirst() {
        Volume v = new Volume();
        Trial.putEntry(v, 2, 0, 2, 'D', 0, 0, 9, 0, 0, 0);
        Trial.putEntry(v, 2, 1, 1, 'F', 0, 0, 10, 10, 0, 0);
        Trial.putEntry(v, 9, 7, 1, 'G', 0, 0, 10, 10, 0, 0);
        Trial.put(v, 0, 9, 255, 255);
        Trial.due(2, () -> v.repair());
        Trial.due("1 70 0 0 0 0 0 0", () -> Trial.entry(v, 2, 1));
        Trial.due("1 71 0 0 10 10 0 0", () -> Trial.entry(v, 9, 7));
    }

    private static void whatTheBootRecordTells() {
        Volume v = Trial.at(new Volume(), "A");
        v.make(false, 0);
        Trial.put(v, 0, 9, 9);
        Trial.put(v, 1, 10, 9);
        Trial.put(v, 2, 0, 9);
        Trial.due(1, () -> v.repair());
        Trial.due(9, () -> v.peek(0, 9));
        Trial.due(0, () -> v.peek(1, 10));
        Trial.due(9, () -> v.peek(2, 0));
        Trial.due("1 3 29 0 0", () -> Trial.bytes(v, -1, 0, 5));
    }

    private static void spoiltAndBadClusters() {
        Volume v = new Volume();
        v.spoil(2);
        v.spoil(9);
        Trial.putEntry(v, 2, 0, 2, 'D', 0, 0, 9, 5, 0, 0);
        Trial.putEntry(v, 9, 0, 8);
        v.poke(0, 20, 254);
        v.poke(0, 31, 254);
        Trial.due(3, () -> v.repair());
        Trial.due("2 68 0 0 9 0 0 0", () -> Trial.entry(v, 2, 0));
        Trial.due(0, () -> v.peek(9, 0));
        Trial.due(2, () -> v.peek(-1, 3));
    }

    private static void countsBytes() {
        Volume v = withChain(0, 254, 9);
        Trial.due(2, () -> v.repair());
        Volume w = new Volume();
        Trial.put(w, 0, 9, 10);
        Trial.putEntry(w, 2, 0, 1, 'F', 0, 0, 9, 100, 0, 0);
        Trial.putEntry(w, 2, 1, 1, 'G', 0, 0, 31, 200, 0, 0);
        Trial.putEntry(w, 2, 2, 3, 3, 0, 3, 0, 3, 0, 3);
        Trial.due(1 + 2 + 5, () -> w.repair());
        Trial.due(0, () -> w.repair());
        Trial.due(-1, () -> Trial.at(w, "F").cut(101));
        Trial.due(36, () -> Trial.at(w, "F").cut(64));
    }
}
