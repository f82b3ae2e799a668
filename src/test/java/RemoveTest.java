/** Promise 5: remove. */
final class RemoveTest {
    public static void main(String[] args) {
        entriesGo();
        chainsAreFree();
        directories();
        fullDirectories();
        lostDirectory();
        strayLongEntriesStay();
        isNotThere();
        Trial.end();
    }

    private static void entriesGo() {
        for (String name : new String[] {"A", "abc", "abcdefghij"}) {
            Volume v = Trial.withFile("X");
            Trial.at(v, name).make(false, 9);
            Trial.at(v, "Y").make(false, 2);
            Trial.due(1, () -> Trial.at(v, name).remove());
            int root = v.peek(-1, 1);
            int longParts = name.length() == 1 ? 0 : name.length() / 5 > 0 ? 2 : 1;
            Trial.due("1 88 0 0 0 0 0 1", () -> Trial.entry(v, root, 0));
            for (int slot = 1; slot <= 1 + longParts; slot++) {
                int gone = slot;
                Trial.due("0 0 0 0 0 0 0 0", () -> Trial.entry(v, root, gone));
            }
            Trial.due("1 89 0 0 0 0 0 2", () -> Trial.entry(v, root, 2 + longParts));
            Trial.due(-1, () -> Trial.at(v, name).look());
            Trial.due(-1, () -> v.remove());
            Trial.due(28 + 1, () -> v.peek(-1, 2));
        }
    }

    private static void chainsAreFree() {
        Volume v = Trial.withFile("F");
        Trial.fill(v, 130);
        Trial.due(26, () -> v.peek(-1, 2));
        Trial.due(1, () -> v.remove());
        Trial.due(29, () -> v.peek(-1, 2));
        Trial.due(0, () -> v.repair());
        Volume w = Trial.withFile("F");
        Trial.fill(w, 130);
        int first = w.look() >> 17;
        w.poke(w.peek(-1, 1), 5, 64);
        w.remove();
        Trial.due(0, () -> w.peek(w.peek(-1, 0), first));
        Trial.due(27, () -> w.peek(-1, 2));
        Trial.due(2, () -> w.repair());
    }

    private static void directories() {
        Volume v = Trial.at(new Volume(), "dir");
        v.make(true, 0);
        Trial.due(28, () -> v.peek(-1, 2));
        Trial.due(1, () -> v.remove());
        Trial.due(29, () -> v.peek(-1, 2));
        Trial.due(-1, () -> v.look());
        Trial.at(v, "D").make(true, 0);
        Trial.at(v, "D/E").make(true, 0);
        Trial.due(-1, () -> Trial.at(v, "D").remove());
        Trial.due(1, () -> Trial.at(v, "D/E").remove());
        Trial.due(1, () -> Trial.at(v, "D").remove());
        Trial.due(29, () -> v.peek(-1, 2));
    }

    private static void fullDirectories() {
        for (int kind : new int[] {1, 2, 7, 15, 255}) {
            for (int slot : new int[] {0, 7}) {
                Volume v = Trial.at(new Volume(), "D");
                v.make(true, 0);
                v.poke(3, 8 * slot, kind);
                Trial.due(-1, () -> v.remove());
                v.poke(3, 8 * slot, 0);
                v.poke(3, 8 * slot + 1, 9);
                Trial.due(1, () -> v.remove());
            }
        }
    }

    private static void lostDirectory() {
        for (int lost : new int[] {0, 1, 32, 255}) {
            Volume v = Trial.at(new Volume(), "D");
            v.make(true, 0);
            v.poke(4, 4, lost);
            Trial.due(1, () -> v.remove());
            Trial.due(-1, () -> v.look());
            Trial.due(28, () -> v.peek(-1, 2));
        }
    }

    /** Long entries that do not give it its name are not its own. */
    private static void strayLongEntriesStay() {
        Volume v = Trial.withFile("abcdefg");
        v.poke(3, 2, v.peek(3, 2) ^ 1);
        Trial.due(1, () -> Trial.at(v, "A~1").remove());
        int root = v.peek(-1, 1);
        Trial.due("15 66", () -> Trial.bytes(v, root, 0, 2));
        Trial.due("15 1", () -> Trial.bytes(v, root, 8, 2));
        Trial.due("0 0 0 0 0 0 0 0", () -> Trial.entry(v, root, 2));
        Volume w = Trial.withFile("abcdefg");
        w.poke(3, 9, 65);
        Trial.due(1, () -> Trial.at(w, "abcde").remove());
        Trial.due("15 66", () -> Trial.bytes(w, w.peek(-1, 1), 0, 2));
        Trial.due("0 0 0 0 0 0 0 0", () -> Trial.entry(w, w.peek(-1, 1), 1));
    }

    private static void isNotThere() {
        Volume v = Trial.withFile("A");
        String before = Trial.disk(v);
        for (String path : new String[] {"B", "A/B", "B/A"}) {
            Trial.due(-1, () -> Trial.at(v, path).remove());
        }
        Trial.due(before, () -> Trial.disk(v));
    }
}
