/** How a change is written: what it takes, in which order, and what it makes free. */
final class ChangeTest {
    public static void main(String[] args) {
        orderOfTaking();
        directoriesUpToTheRoot();
        oldTableStays();
        otherBytesOfTheTableAreCopied();
        refusedWithWrites();
        rootThatIsToldFree();
        spoiltRootThatIsToldFree();
        chainThatIsToldFree();
        badClusterInUseBecomesFree();
        directoryInItself();
        twiceTheSameChain();
        Trial.end();
    }

    /** Bytes first, then the directory, then those above it. */
    private static void orderOfTaking() {
        Volume v = new Volume();
        Trial.at(v, "D").make(true, 1);
        Trial.at(v, "D/F").make(false, 2);
        Trial.due("255 0 0 255", () -> Trial.bytes(v, 0, 2, 4));
        Trial.leaveFree(v, 10, 11, 12, 13, 14);
        Trial.due(8, () -> Trial.at(v, "D/F").write(0, 1L, 8, 3));
        Trial.due(12, () -> v.peek(-1, 1));
        Trial.due("2 68 0 0 11 0 0 1", () -> Trial.entry(v, 12, 0));
        Trial.due("1 70 0 0 10 8 0 3", () -> Trial.entry(v, 11, 0));
        Trial.due("255 255 255 0 0", () -> Trial.bytes(v, v.peek(-1, 0), 10, 5));
        Trial.due(Trial.name("E"), () -> Trial.at(v, "D/E").make(true, 4));
    }

    private static void directoriesUpToTheRoot() {
        Volume v = new Volume();
        Trial.at(v, "A").make(true, 1);
        Trial.at(v, "A/B").make(true, 2);
        Trial.at(v, "A/B/C").make(true, 3);
        Trial.due(26, () -> v.peek(-1, 2));
        Trial.leaveFree(v, 20, 21, 22, 23, 24, 25);
        Trial.due(Trial.name("D"), () -> Trial.at(v, "A/B/C/D").make(true, 4));
        Trial.due("2 68 0 0 20 0 0 4", () -> Trial.entry(v, 21, 0));
        Trial.due("2 67 0 0 21 0 0 3", () -> Trial.entry(v, 22, 0));
        Trial.due("2 66 0 0 22 0 0 2", () -> Trial.entry(v, 23, 0));
        Trial.due("2 65 0 0 23 0 0 1", () -> Trial.entry(v, 24, 0));
        Trial.due(24, () -> v.peek(-1, 1));
        Trial.due(5, () -> v.peek(-1, 2));
    }

    private static void oldTableStays() {
        Volume v = Trial.at(new Volume(), "A");
        v.make(false, 0);
        Trial.due("0 0 255 0 0", () -> Trial.bytes(v, 0, 0, 5));
        Trial.due("0 0 0 255 0", () -> Trial.bytes(v, 1, 0, 5));
        v.remove();
        Trial.due("0 0 255 0 0", () -> Trial.bytes(v, 0, 0, 5));
        Trial.due("0 0 0 255 0", () -> Trial.bytes(v, 1, 0, 5));
        Trial.due("0 2 29 0 0", () -> Trial.bytes(v, -1, 0, 5));
        Trial.due("1 65 0 0 0 0 0 0", () -> Trial.entry(v, 3, 0));
        Trial.due("0 0 0 0 0 0 0 0", () -> Trial.entry(v, 2, 0));
    }

    private static void otherBytesOfTheTableAreCopied() {
        Volume v = Trial.at(new Volume(), "A");
        Trial.put(v, 0, 0, 5, 6);
        Trial.put(v, 0, 3, 1, 32, 253, 254, 7);
        Trial.put(v, 0, 31, 100);
        v.make(false, 0);
        Trial.due("5 6 0 1 32 253 254 7 255 0", () -> Trial.bytes(v, 1, 0, 10));
        Trial.due(100, () -> v.peek(1, 31));
        Trial.due(8, () -> v.peek(-1, 1));
    }

    private static void refusedWithWrites() {
        Volume v = Trial.withFile("F");
        Trial.fill(v, 64);
        Trial.leaveFree(v, 30, 31);
        v.poke(30, 0, 7);
        v.poke(31, 1, 7);
        String boot = Trial.bytes(v, -1, 0, 5);
        String tables = Trial.bytes(v, 0, 0, 32) + Trial.bytes(v, 1, 0, 32);
        v.fail(3);
        Trial.due(Trial.UNSUPPORTED, () -> v.write(64, 99L, 1, 77));
        Trial.due(1, () -> v.peek(30, 0));
        Trial.due("99 0", () -> Trial.bytes(v, 31, 0, 2));
        Trial.due(boot, () -> Trial.bytes(v, -1, 0, 5));
        Trial.due(tables, () -> Trial.bytes(v, 0, 0, 32) + Trial.bytes(v, 1, 0, 32));
        Trial.due(64 + 9 * 256, () -> v.look() & 0xffff);
        Trial.due(-1, () -> v.read(64));
        Trial.due(-2, () -> v.remove());
    }

    /** A damaged table may tell the root's cluster free: it is taken and stays so. */
    private static void rootThatIsToldFree() {
        Volume v = new Volume();
        Trial.putEntry(v, 2, 4, 1, 'Z', 0, 0, 0, 0, 0, 6);
        v.poke(0, 2, 0);
        Trial.due(Trial.name("A"), () -> Trial.at(v, "A").make(false, 5));
        Trial.due("1 2 29 0 0", () -> Trial.bytes(v, -1, 0, 5));
        Trial.due(255, () -> v.peek(1, 2));
        Trial.due(5 * 256, () -> v.look());
        Trial.due(6 * 256, () -> Trial.at(v, "Z").look());
        Volume w = new Volume();
        w.poke(0, 2, 0);
        Trial.putEntry(w, 2, 4, 1, 'Z', 0, 0, 0, 0, 0, 6);
        Trial.due(Trial.name("D"), () -> Trial.at(w, "D").make(true, 5));
        Trial.due("1 3 28 0 0", () -> Trial.bytes(w, -1, 0, 5));
        Trial.due("255 255 0", () -> Trial.bytes(w, 1, 2, 3));
        Trial.due(6 * 256, () -> Trial.at(w, "Z").look());
    }

    private static void spoiltRootThatIsToldFree() {
        Volume v = Trial.at(new Volume(), "A");
        v.poke(0, 2, 0);
        v.spoil(2);
        Trial.due(Trial.name("A"), () -> v.make(false, 5));
        Trial.due("254 255 0", () -> Trial.bytes(v, 1, 2, 3));
        Trial.due("1 3 28 1 0", () -> Trial.bytes(v, -1, 0, 5));
    }

    private static void chainThatIsToldFree() {
        Volume v = Trial.withFile("F");
        Trial.fill(v, 8);
        int first = v.look() >> 17;
        int active = v.peek(-1, 0);
        v.poke(active, first, 0);
        Trial.leaveFree(v, first, 31);
        Trial.due(9, () -> v.write(8, 9L, 1, 1));
        Trial.due(first, () -> v.look() >> 17);
        Trial.due(255, () -> v.peek(1 - active, first));
        Trial.due("1 2 3 4 5 6 7 8 9 0", () -> Trial.bytes(v, first, 0, 10));
    }

    private static void badClusterInUseBecomesFree() {
        Volume v = Trial.at(new Volume(), "D");
        v.make(true, 0);
        v.poke(1, 3, 254);
        v.poke(1, 4, 254);
        Trial.due(1, () -> v.remove());
        Trial.due("0 2 29 0 0", () -> Trial.bytes(v, -1, 0, 5));
    }

    /** Each directory of the path is written as it was read, with one entry changed. */
    private static void directoryInItself() {
        Volume v = new Volume();
        Trial.putEntry(v, 2, 0, 2, 'A', 0, 0, 2, 0, 0, 9);
        Trial.due(Trial.name("X"), () -> Trial.at(v, "A/A/X").make(false, 1));
        Trial.due("2 65 0 0 4 0 0 9", () -> Trial.entry(v, 5, 0));
        Trial.due("2 65 0 0 3 0 0 9", () -> Trial.entry(v, 4, 0));
        Trial.due("2 65 0 0 2 0 0 9", () -> Trial.entry(v, 3, 0));
        Trial.due("1 88 0 0 0 0 0 1", () -> Trial.entry(v, 3, 1));
        Trial.due("0 0 0 0 0 0 0 0", () -> Trial.entry(v, 4, 1));
        Trial.due("1 5 27 0 0", () -> Trial.bytes(v, -1, 0, 5));
    }

    private static void twiceTheSameChain() {
        Volume v = new Volume();
        Trial.putEntry(v, 2, 0, 1, 'A', 0, 0, 9, 100, 0, 9);
        Trial.putEntry(v, 2, 1, 1, 'B', 0, 0, 9, 60, 0, 9);
        Trial.put(v, 0, 9, 10, 255);
        Trial.due(1, () -> Trial.at(v, "A").remove());
        Trial.due("0 0", () -> Trial.bytes(v, 1, 9, 2));
        Trial.due(60 + 9 * 256 + 9 * 131072, () -> Trial.at(v, "B").look());
        Trial.due(61, () -> v.write(60, 1L, 1, 9));
    }
}
