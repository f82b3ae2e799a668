/** Paths, names and what is found by them, and which exception comes first. */
final class PathTest {
    public static void main(String[] args) {
        noPaths();
        pathsThatAre();
        downComesFirst();
        argumentsComeBeforeWhatIsThere();
        lettersAreAlike();
        otherCharactersAreNot();
        foundByShortAndLongName();
        firstSuchIsFound();
        throughFilesAndLostDirectories();
        longNamesByTheirEntries();
        charactersUpToTheFirstZero();
        otherKindsAreNoEntries();
        Trial.end();
    }

    private static void noPaths() {
        String[] wrong = {"", "/", "a/", "/a", "a//b", "a/b/c/d/e", "abcdefghijk", "a/abcdefghijk", "a/b/c/d/"};
        for (String text : wrong) {
            Volume v = Trial.at(new Volume(), text);
            allThrow(v, Trial.ARGUMENT);
        }
    }

    private static void allThrow(Volume v, String exception) {
        Trial.due(exception, () -> v.make(false, 0));
        Trial.due(exception, () -> v.make(true, 0));
        Trial.due(exception, () -> v.remove());
        Trial.due(exception, () -> v.write(0, 1L, 1, 0));
        Trial.due(exception, () -> v.cut(0));
        Trial.due(exception, () -> v.read(0));
        Trial.due(exception, () -> v.look());
    }

    private static void pathsThatAre() {
        Volume v = new Volume();
        String[] directories = {"abcdefghij", "abcdefghij/B", "abcdefghij/B/C"};
        for (String path : directories) {
            Trial.at(v, path).make(true, 0);
        }
        Trial.due(Trial.name("F"), () -> Trial.at(v, "abcdefghij/B/C/F").make(false, 3));
        Trial.due(768, () -> Trial.at(v, "A~1/b/c/f").look());
        Trial.due(-1, () -> Trial.at(v, "abcdefghi/B/C/F").look());
        Trial.due(-1, () -> Trial.at(v, "B/C/F").look());
    }

    private static void downComesFirst() {
        Volume v = Trial.at(new Volume(), "A");
        v.fail(1);
        Trial.due(-2, () -> v.make(false, 0));
        allThrow(v, Trial.STATE);
        Trial.due(Trial.STATE, () -> v.repair());
        Trial.due(Trial.STATE, () -> v.make(false, 256));
        Trial.due(Trial.STATE, () -> v.write(0, 1L, 9, 0));
        v.wipe();
        allThrow(v, Trial.STATE);
        v.mount();
        allThrow(v, Trial.ARGUMENT);
    }

    private static void argumentsComeBeforeWhatIsThere() {
        Volume v = Trial.at(new Volume(), "X/Y");
        Trial.due(Trial.ARGUMENT, () -> v.make(false, -1));
        Trial.due(Trial.ARGUMENT, () -> v.make(true, 256));
        Trial.due(Trial.ARGUMENT, () -> v.write(0, 1L, 0, 0));
        Trial.due(Trial.ARGUMENT, () -> v.write(-1, 1L, 9, 0));
        Trial.due(-1, () -> v.make(false, 255));
        Trial.due(-1, () -> v.write(0, 1L, 8, 255));
    }

    private static void lettersAreAlike() {
        Volume v = Trial.withFile("azAZ");
        Trial.due(256, () -> Trial.at(v, "AZaz").look());
        Trial.due(256, () -> Trial.at(v, "azaz").look());
        Trial.due(-1, () -> Trial.at(v, "AZAZ").make(false, 0));
        Volume w = Trial.withFile("AZ9");
        Trial.due(256, () -> Trial.at(w, "az9").look());
        Trial.due(-1, () -> Trial.at(w, "Az9").make(true, 0));
    }

    private static void otherCharactersAreNot() {
        Volume v = Trial.withFile("@[`{");
        Trial.due(256, () -> Trial.at(v, "@[`{").look());
        Trial.due(-1, () -> Trial.at(v, "`[`{").look());
        Trial.due(-1, () -> Trial.at(v, "@{`{").look());
        Trial.due(-1, () -> Trial.at(v, "@[@{").look());
        Trial.due(-1, () -> Trial.at(v, "@[`[").look());
    }

    private static void foundByShortAndLongName() {
        Volume v = Trial.withFile("longername");
        Trial.due(256, () -> Trial.at(v, "LongerName").look());
        Trial.due(256, () -> Trial.at(v, "l~1").look());
        String[] others = {"longernam", "longe", "ernam", "rname", "l~", "l~2", "longername".substring(5), "l", "longernamf"};
        for (String other : others) {
            Trial.due(-1, () -> Trial.at(v, other).look());
        }
        Volume w = Trial.withFile("lower");
        Trial.due(256, () -> Trial.at(w, "LOWER").look());
        Trial.due(-1, () -> Trial.at(w, "lowers").look());
        Trial.due(-1, () -> Trial.at(w, "lowe").look());
        Volume x = Trial.withFile("A");
        Trial.due(-1, () -> Trial.at(x, "AB").look());
        Trial.due(-1, () -> Trial.at(x, "B").look());
    }

    /** A long name may be another entry's short name. */
    private static void firstSuchIsFound() {
        Volume v = Trial.at(new Volume(), "a~2");
        Trial.due(Trial.name("A~1"), () -> v.make(false, 5));
        Trial.due(Trial.name("A~2"), () -> Trial.at(v, "abc").make(true, 6));
        Trial.due(5 * 256, () -> Trial.at(v, "A~2").look());
        Trial.due(-1, () -> Trial.at(v, "A~2/X").make(false, 0));
        Trial.due(1, () -> Trial.at(v, "A~2").remove());
        Trial.due(6 * 256 + 65536, () -> Trial.at(v, "A~2").look() & 0x1ffff);
    }

    private static void throughFilesAndLostDirectories() {
        Volume v = Trial.withFile("F");
        Trial.at(v, "D").make(true, 0);
        Trial.at(v, "D/X").make(false, 4);
        Trial.due(-1, () -> Trial.at(v, "F/X").look());
        Trial.due(-1, () -> Trial.at(v, "F/X").make(false, 0));
        int root = v.peek(-1, 1);
        int cluster = v.peek(root, 12);
        for (int lost : new int[] {0, 1, 32, 255}) {
            v.poke(root, 12, lost);
            Trial.due(-1, () -> Trial.at(v, "D/X").look());
            Trial.due(-1, () -> Trial.at(v, "D/Y").make(false, 0));
            Trial.due(65536 + 131072 * lost, () -> Trial.at(v, "D").look());
        }
        v.poke(root, 12, cluster);
        Trial.due(1024, () -> Trial.at(v, "D/X").look());
        for (int edge : new int[] {2, 31}) {
            Trial.putEntry(v, edge, 0, 1, 'X', 0, 0, 0, 0, 0, 7);
            v.poke(root, 12, edge);
            Trial.due(7 * 256, () -> Trial.at(v, "D/X").look());
        }
    }

    private static void longNamesByTheirEntries() {
        int sum = (4 * 'Q' + 2 * '~' + '1') & 255;
        Volume v = new Volume();
        Trial.putEntry(v, 2, 0, 15, 65, sum, 'q', 'r', 0, 0, 0);
        Trial.putEntry(v, 2, 1, 1, 'Q', '~', '1', 0, 0, 0, 1);
        Trial.due(256, () -> Trial.at(v, "QR").look());
        for (int[] damage : new int[][] {{0, 14}, {1, 1}, {1, 66}, {1, 64}, {2, sum + 1}}) {
            int before = v.peek(2, damage[0]);
            v.poke(2, damage[0], damage[1]);
            Trial.due(-1, () -> Trial.at(v, "qr").look());
            Trial.due(256, () -> Trial.at(v, "q~1").look());
            v.poke(2, damage[0], before);
        }
        Trial.putEntry(v, 2, 2, 15, 66, sum, 'z', 0, 0, 0, 0);
        Trial.putEntry(v, 2, 3, 15, 1, sum, 'q', 'u', 'v', 'w', 'x');
        Trial.putEntry(v, 2, 4, 2, 'Q', '~', '1', 9, 0, 0, 2);
        Trial.due(512 + 65536 + 9 * 131072, () -> Trial.at(v, "quvwxz").look());
        for (int[] damage : new int[][] {{16, 1}, {17, 65}, {17, 2}, {18, sum + 1}, {24, 0}, {25, 2}, {26, sum + 1}}) {
            int before = v.peek(2, damage[0]);
            v.poke(2, damage[0], damage[1]);
            Trial.due(-1, () -> Trial.at(v, "quvwxz").look());
            v.poke(2, damage[0], before);
        }
        v.poke(2, 25, 65);
        Trial.due(-1, () -> Trial.at(v, "quvwxz").look());
        Trial.due(512 + 65536 + 9 * 131072, () -> Trial.at(v, "quvwx").look());
    }

    private static void charactersUpToTheFirstZero() {
        Volume v = new Volume();
        Trial.putEntry(v, 2, 0, 1, 'A', 0, 'B', 0, 0, 0, 1);
        Trial.due(256, () -> Trial.at(v, "A").look());
        Trial.due(-1, () -> Trial.at(v, "AB").look());
        int sum = (4 * 'Q' + 2 * '~' + '1') & 255;
        Trial.putEntry(v, 2, 1, 15, 66, sum, 'x', 'y', 0, 'z', 0);
        Trial.putEntry(v, 2, 2, 15, 1, sum, 'a', 'b', 0, 'c', 'd');
        Trial.putEntry(v, 2, 3, 1, 'Q', '~', '1', 0, 0, 0, 3);
        Trial.due(768, () -> Trial.at(v, "abxy").look());
        Trial.due(-1, () -> Trial.at(v, "ab").look());
        Trial.due(-1, () -> Trial.at(v, "abcdxy").look());
        Trial.putEntry(v, 2, 4, 1, 0, 'H', 'I', 0, 0, 0, 4);
        Trial.due(-1, () -> Trial.at(v, "HI").look());
        Trial.putEntry(v, 2, 5, 15, 65, 4 * 'R' & 255, 'n', 'o', 0, 0, 0);
        Trial.putEntry(v, 2, 6, 1, 'R', 0, 'S', 0, 0, 0, 5);
        Trial.due(5 * 256, () -> Trial.at(v, "no").look());
        sumsOfShorterNames();
    }

    private static void sumsOfShorterNames() {
        int[][] names = {{'R', 'S', 0, 4 * 'R' + 2 * 'S'}, {'R', 0, 0, 4 * 'R'}, {0, 0, 0, 0}, {0, 'S', 'T', 0}};
        for (int[] name : names) {
            Volume v = new Volume();
            Trial.putEntry(v, 2, 0, 15, 65, name[3] & 255, 'n', 'o', 0, 0, 0);
            Trial.putEntry(v, 2, 1, 1, name[0], name[1], name[2], 0, 0, 0, 5);
            Trial.due(5 * 256, () -> Trial.at(v, "no").look());
            Trial.due(0, () -> v.repair());
        }
    }

    private static void otherKindsAreNoEntries() {
        for (int kind = 0; kind < 256; kind++) {
            Volume v = new Volume();
            Trial.putEntry(v, 2, 0, kind, 'A', 0, 0, 0, 0, 0, 0);
            int due = kind == 1 ? 0 : kind == 2 ? 65536 : -1;
            Trial.due(due, () -> Trial.at(v, "A").look());
        }
    }
}
