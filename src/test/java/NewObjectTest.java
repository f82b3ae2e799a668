/** Promise 1: the disk as at first, not down, an empty buffer. */
final class NewObjectTest {
    public static void main(String[] args) {
        bootRecord();
        bytesOnDisk();
        emptyBuffer();
        objectsAreApart();
        Trial.end();
    }

    private static void bootRecord() {
        Volume v = new Volume();
        Trial.due(0, () -> v.peek(-1, 0));
        Trial.due(2, () -> v.peek(-1, 1));
        Trial.due(29, () -> v.peek(-1, 2));
        Trial.due(0, () -> v.peek(-1, 3));
        Trial.due(0, () -> v.peek(-1, 4));
        Trial.due(false, () -> v.mount());
        Trial.due(0, () -> v.repair());
    }

    private static void bytesOnDisk() {
        for (int where = 0; where < 32; where++) {
            Volume v = new Volume();
            for (int k = 0; k < (where < 2 ? 32 : 64); k++) {
                int place = where;
                int at = k;
                Trial.due(where == 0 && k == 2 ? 255 : 0, () -> v.peek(place, at));
            }
        }
    }

    private static void emptyBuffer() {
        Volume v = new Volume();
        Trial.due(Trial.ARGUMENT, () -> v.look());
        Trial.append(v, "a/b/cdefghijkl/mnopqrstuv/wxyzabcdefghij");
        Trial.due(false, () -> v.type('k'));
    }

    private static void objectsAreApart() {
        Volume first = Trial.withFile("A");
        first.spoil(4);
        Volume second = new Volume();
        Trial.due(2, () -> second.peek(-1, 1));
        Trial.due(true, () -> second.spoil(4));
        Trial.due(-1, () -> Trial.at(second, "A").look());
        Trial.due(256, () -> first.look());
    }
}
