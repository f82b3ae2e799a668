/** Promises 2 and 3: type and wipe. */
final class BufferTest {
    public static void main(String[] args) {
        highestFirstWithoutZeros();
        bytesThatAreRefused();
        bytesAtTheEdges();
        atMostForty();
        wipeEmpties();
        whileDown();
        Trial.end();
    }

    private static void highestFirstWithoutZeros() {
        Volume v = new Volume();
        Trial.due(true, () -> v.type(0x4100000042000043L));
        Trial.due(Trial.name("ABC"), () -> v.make(false, 0));
        Volume w = new Volume();
        Trial.due(true, () -> w.type(0x5800L));
        Trial.due(true, () -> w.type(0L));
        Trial.due(true, () -> w.type(0x59L));
        Trial.due(Trial.name("XY"), () -> w.make(false, 0));
        Trial.due("1 88 89 0 0 0 0 0", () -> Trial.entry(w, 3, 0));
    }

    private static void bytesThatAreRefused() {
        for (int c = 1; c < 256; c++) {
            boolean fine = c >= 33 && c <= 126;
            for (int shift = 0; shift < 64; shift += 8) {
                long eight = (long) c << shift;
                Trial.due(fine, () -> new Volume().type(eight));
            }
        }
        Volume v = Trial.at(new Volume(), "AB");
        Trial.due(false, () -> v.type(Trial.packed("C ")));
        Trial.due(false, () -> v.type(-1L));
        Trial.due(false, () -> v.type(Trial.packed("\u0080C")));
        Trial.due(Trial.name("AB"), () -> v.make(false, 0));
    }

    private static void bytesAtTheEdges() {
        Volume v = Trial.at(new Volume(), "!~");
        Trial.due(Trial.name("_~1"), () -> v.make(false, 0));
        Trial.due("15 65 169 33 126 0 0 0", () -> Trial.entry(v, 3, 0));
    }

    private static void atMostForty() {
        Volume v = Trial.at(new Volume(), "abcdefghij/abcdefghij/abcdefghij/abcdef");
        Trial.due(false, () -> v.type(Trial.packed("gh")));
        Trial.due(-1, () -> v.look());
        Trial.due(true, () -> v.type('g'));
        Trial.due(-1, () -> v.look());
        Trial.due(false, () -> v.type('h'));
        Trial.due(true, () -> v.type(0L));
        Trial.due(-1, () -> v.look());
    }

    private static void wipeEmpties() {
        Volume v = Trial.at(new Volume(), "abcdefghij/abcdefghij/abcdefghij/abcdefg");
        v.wipe();
        Trial.due(Trial.ARGUMENT, () -> v.look());
        Trial.append(v, "A");
        Trial.due(Trial.name("A"), () -> v.make(false, 0));
        v.wipe();
        v.wipe();
        Trial.due(Trial.ARGUMENT, () -> v.remove());
        Trial.append(v, "A");
        Trial.due(1, () -> v.remove());
        Trial.due(-1, () -> v.remove());
    }

    private static void whileDown() {
        Volume v = Trial.at(new Volume(), "A");
        v.fail(1);
        v.make(false, 0);
        v.wipe();
        Trial.append(v, "BC");
        v.mount();
        Trial.due(Trial.name("BC"), () -> v.make(false, 0));
    }
}
