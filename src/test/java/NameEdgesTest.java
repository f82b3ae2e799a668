/** The edges that the terms name for names and paths, long names and short ones. */
final class NameEdgesTest {
    private static final int SUM = (4 * 'Q' + 2 * '~' + '1') & 255;

    public static void main(String[] args) {
        namesOfOneToTenCharacters();
        everyCharacterOfAName();
        upToFourNames();
        slashesWithoutNames();
        eachButTheLastIsADirectory();
        everyPairOfCharactersInComparing();
        firstClustersToGoInto();
        nameOfTenIsFoundWhole();
        partsUpToAZero();
        firstSuchInItsDirectory();
        firstSuchByEitherName();
        firstSuchOfEitherKind();
        ownShortNamesByCharacter();
        ownShortNamesByLength();
        oneLongEntryOrTwo();
        firstLetterOrDigitByCharacter();
        nothingBehindTheNameCounts();
        leastDigitUpToSeven();
        shortNamesAlikeInLetters();
        Trial.end();
    }

    private static String ofLength(int n) {
        return "abcdefghijklmnopqrstuvwxyz".substring(0, n);
    }

    private static void namesOfOneToTenCharacters() {
        for (int n = 0; n <= 26; n++) {
            boolean fine = n >= 1 && n <= 10;
            for (String before : new String[] {"", "D/", "D/E/", "D/E/F/"}) {
                Volume v = Trial.at(new Volume(), before + ofLength(n));
                Trial.due(fine ? (Object) (-1) : Trial.ARGUMENT, () -> v.look());
            }
            for (String behind : new String[] {"/G", "/E/G", "/E/F/G"}) {
                Volume v = Trial.at(new Volume(), ofLength(n) + behind);
                Trial.due(fine ? (Object) (-1) : Trial.ARGUMENT, () -> v.make(false, 0));
            }
        }
    }

    private static void everyCharacterOfAName() {
        for (int c = 33; c <= 126; c++) {
            if (c == '/') {
                continue;
            }
            Volume v = Trial.at(new Volume(), "--------" + (char) c + (char) c);
            Trial.due(true, () -> v.make(false, 3) > 0);
            Trial.due(3 * 256, () -> v.look());
            int character = c;
            Trial.due("45 45 45 " + c + " " + c, () -> Trial.bytes(v, 3, 3, 5));
            Trial.due(true, () -> character == v.peek(3, 7));
        }
    }

    private static void upToFourNames() {
        Volume v = new Volume();
        String path = "A";
        for (int names = 1; names <= 4; names++) {
            Trial.at(v, path);
            Trial.due(Trial.name("A"), () -> v.make(true, 1));
            path += "/A";
        }
        String five = path;
        String before = v.disk();
        Trial.due(Trial.ARGUMENT, () -> Trial.at(v, five).make(false, 1));
        Trial.due(Trial.ARGUMENT, () -> v.make(true, 1));
        Trial.due(Trial.ARGUMENT, () -> v.remove());
        Trial.due(Trial.ARGUMENT, () -> v.write(0, 1L, 1, 1));
        Trial.due(Trial.ARGUMENT, () -> v.cut(0));
        Trial.due(Trial.ARGUMENT, () -> v.read(0));
        Trial.due(Trial.ARGUMENT, () -> v.look());
        Trial.due(before, () -> v.disk());
        Trial.due(1, () -> Trial.at(v, "A/A/A/A").remove());
    }

    private static void slashesWithoutNames() {
        String[] wrong = {"/", "//", "/A", "A/", "A//A", "/A/A", "A/A/", "A/A//A", "A/A/A/", "A/A/A/A/", "/A/A/A/A", "A/A/A//A"};
        for (String text : wrong) {
            Volume v = Trial.at(new Volume(), "A");
            v.make(true, 0);
            Trial.due(Trial.ARGUMENT, () -> Trial.at(v, text).look());
            Trial.due(Trial.ARGUMENT, () -> v.make(true, 0));
        }
    }

    private static void eachButTheLastIsADirectory() {
        Volume v = new Volume();
        Trial.at(v, "D").make(true, 0);
        Trial.at(v, "D/E").make(true, 0);
        Trial.at(v, "D/F").make(false, 0);
        Trial.at(v, "D/E/F").make(false, 0);
        String before = v.disk();
        for (String path : new String[] {"D/F/X", "D/E/F/X", "D/F/E/F", "X/E", "D/X/F", "D/E/X/F", "F/E"}) {
            Trial.due(-1, () -> Trial.at(v, path).make(false, 0));
            Trial.due(-1, () -> v.make(true, 0));
            Trial.due(-1, () -> v.remove());
            Trial.due(-1, () -> v.write(0, 1L, 1, 0));
            Trial.due(-1, () -> v.cut(0));
            Trial.due(-1, () -> v.read(0));
            Trial.due(-1, () -> v.look());
        }
        Trial.due(before, () -> v.disk());
        Trial.due(true, () -> Trial.at(v, "D/E").look() > 0);
    }

    /** Both in a short name and in a long one. */
    private static void everyPairOfCharactersInComparing() {
        for (int c = 33; c <= 126; c++) {
            Volume v = new Volume();
            Trial.putEntry(v, 2, 0, 15, 65, SUM, 'l', 'o', 'n', c, 0);
            Trial.putEntry(v, 2, 1, 1, 'Q', '~', '1', 0, 0, 0, 5);
            Trial.putEntry(v, 2, 2, 1, 'S', c, 0, 0, 0, 0, 6);
            for (int d = 33; d <= 126; d++) {
                boolean alike = Character.toUpperCase(c) == Character.toUpperCase(d);
                String last = "" + (char) d;
                if (d != '/' && (d + c) % 2 == 0) {
                    Trial.due(alike ? 5 * 256 : -1, () -> Trial.at(v, "lon" + last).look());
                } else if (d != '/') {
                    Trial.due(alike ? 6 * 256 : -1, () -> Trial.at(v, "S" + last).look());
                }
            }
            int own = Character.isLetter(c) ? c ^ 32 : c;
            Trial.due(own == '/' ? Trial.ARGUMENT : (Object) (6 * 256), () -> Trial.at(v, "s" + (char) own).look());
        }
    }

    private static void firstClustersToGoInto() {
        for (int first = 0; first < 256; first++) {
            Volume v = Trial.at(new Volume(), "D/X");
            Trial.putEntry(v, 2, 0, 2, 'D', 0, 0, first, 0, 0, 0);
            boolean there = first >= 2 && first <= 31;
            int cluster = first;
            if (there) {
                Trial.putEntry(v, cluster, 1, 1, 'X', 0, 0, 0, 0, 0, 7);
            }
            Trial.due(there ? 7 * 256 : -1, () -> v.look());
            Trial.due(there ? (Object) Trial.name("Y") : (Object) (-1), () -> Trial.at(v, "D/Y").make(false, 0));
        }
    }

    private static void nameOfTenIsFoundWhole() {
        Volume v = Trial.withFile("abcdefghij");
        Trial.due(256, () -> Trial.at(v, "ABCDEFGHIJ").look());
        for (int n = 1; n < 10; n++) {
            String shorter = ofLength(n);
            Trial.due(-1, () -> Trial.at(v, shorter).look());
        }
        for (int i = 0; i < 10; i++) {
            StringBuilder other = new StringBuilder("abcdefghij");
            other.setCharAt(i, '-');
            Trial.due(-1, () -> Trial.at(v, other.toString()).look());
        }
        Volume six = Trial.withFile("abcdef");
        Trial.due(-1, () -> Trial.at(six, "abcdefg").look());
        Trial.due(-1, () -> Trial.at(six, "abcde").look());
        Trial.due(256, () -> Trial.at(six, "abcdef").look());
    }

    private static void partsUpToAZero() {
        for (int one = 0; one <= 5; one++) {
            for (int two = 0; two <= 5; two++) {
                Volume v = new Volume();
                Trial.putEntry(v, 2, 0, 15, 66, SUM, 'f', 'g', 'h', 'i', 'j');
                Trial.putEntry(v, 2, 1, 15, 1, SUM, 'a', 'b', 'c', 'd', 'e');
                Trial.putEntry(v, 2, 2, 1, 'Q', '~', '1', 0, 0, 0, 5);
                if (one < 5) {
                    v.poke(2, 8 + 3 + one, 0);
                }
                if (two < 5) {
                    v.poke(2, 3 + two, 0);
                }
                String name = "abcde".substring(0, one) + "fghij".substring(0, two);
                Object due = name.isEmpty() ? Trial.ARGUMENT : (Object) (5 * 256);
                Trial.due(due, () -> Trial.at(v, name).look());
                Trial.due(name.length() == 10 ? Trial.ARGUMENT : (Object) (-1), () -> Trial.at(v, name + "x").look());
                if (name.length() > 1) {
                    Trial.due(-1, () -> Trial.at(v, name.substring(1)).look());
                    Trial.due(-1, () -> Trial.at(v, name.substring(0, name.length() - 1)).look());
                }
            }
        }
    }

    private static void firstSuchInItsDirectory() {
        for (int first = 0; first < 8; first++) {
            Volume v = new Volume();
            for (int slot = first; slot < 8; slot++) {
                Trial.putEntry(v, 2, slot, 1, 'A', 0, 0, 0, 0, 0, slot);
            }
            int due = first * 256;
            Trial.due(due, () -> Trial.at(v, "a").look());
            Trial.due(1, () -> v.remove());
            Trial.due(first == 7 ? -1 : due + 256, () -> v.look());
        }
    }

    /** A short name before a long one that is alike, and behind it. */
    private static void firstSuchByEitherName() {
        int sum = (4 * 'Z' + 2 * '~' + '9') & 255;
        Volume before = Trial.at(new Volume(), "q~1");
        Trial.putEntry(before, 2, 0, 1, 'Q', '~', '1', 0, 0, 0, 5);
        Trial.putEntry(before, 2, 1, 15, 65, sum, 'Q', '~', '1', 0, 0);
        Trial.putEntry(before, 2, 2, 1, 'Z', '~', '9', 0, 0, 0, 6);
        Trial.due(5 * 256, () -> before.look());
        Volume behind = Trial.at(new Volume(), "q~1");
        Trial.putEntry(behind, 2, 0, 15, 65, sum, 'Q', '~', '1', 0, 0);
        Trial.putEntry(behind, 2, 1, 1, 'Z', '~', '9', 0, 0, 0, 6);
        Trial.putEntry(behind, 2, 2, 1, 'Q', '~', '1', 0, 0, 0, 5);
        Trial.due(6 * 256, () -> behind.look());
    }

    /** A file behind a directory of its name is not found, nor a directory behind a file. */
    private static void firstSuchOfEitherKind() {
        Volume v = Trial.at(new Volume(), "A");
        Trial.putEntry(v, 2, 0, 2, 'A', 0, 0, 9, 0, 0, 5);
        Trial.putEntry(v, 2, 1, 1, 'A', 0, 0, 10, 5, 0, 6);
        Trial.put(v, 0, 9, 255, 255);
        Trial.due(5 * 256 + 65536 + 9 * 131072, () -> v.look());
        Trial.due(-1, () -> v.read(0));
        Trial.due(-1, () -> v.write(0, 1L, 1, 1));
        Trial.due(-1, () -> v.cut(0));
        Trial.due(Trial.name("X"), () -> Trial.at(v, "A/X").make(false, 0));
        Volume w = Trial.at(new Volume(), "A/X");
        Trial.putEntry(w, 2, 0, 1, 'A', 0, 0, 0, 0, 0, 6);
        Trial.putEntry(w, 2, 1, 2, 'A', 0, 0, 9, 0, 0, 5);
        Trial.putEntry(w, 9, 0, 1, 'X', 0, 0, 0, 0, 0, 7);
        Trial.due(-1, () -> w.look());
        Trial.due(-1, () -> w.make(false, 0));
        Trial.due(1, () -> Trial.at(w, "A").remove());
        Trial.due(7 * 256, () -> Trial.at(w, "A/X").look());
    }

    private static boolean isCapitalOrDigit(int c) {
        return c >= 'A' && c <= 'Z' || c >= '0' && c <= '9';
    }

    private static void ownShortNamesByCharacter() {
        String[][] around = {{"", ""}, {"", "A"}, {"A", ""}, {"", "AA"}, {"A", "A"}, {"AA", ""}};
        for (int c = 33; c <= 126; c++) {
            for (String[] sides : around) {
                if (c == '/') {
                    continue;
                }
                String name = sides[0] + (char) c + sides[1];
                Volume v = Trial.at(new Volume(), name);
                boolean own = isCapitalOrDigit(c);
                int answer = v.make(false, 0);
                Trial.due(own, () -> answer == Trial.name(name));
                Trial.due(own ? 1 : 15, () -> v.peek(3, 0));
                Trial.due(own ? 0 : 1, () -> v.peek(3, 8));
                Trial.due(0, () -> v.peek(3, 16));
            }
        }
    }

    private static void ownShortNamesByLength() {
        String capitals = "AB3DEFGHIJ";
        for (int n = 1; n <= 10; n++) {
            String name = capitals.substring(0, n);
            Volume v = Trial.at(new Volume(), name);
            Trial.due(n <= 3 ? Trial.name(name) : Trial.name("A~1"), () -> v.make(false, 0));
        }
    }

    private static void oneLongEntryOrTwo() {
        for (int n = 1; n <= 10; n++) {
            Volume v = Trial.at(new Volume(), ofLength(n));
            v.make(false, 0);
            int parts = n <= 5 ? 1 : 2;
            Trial.due("15 " + (64 + parts), () -> Trial.bytes(v, 3, 0, 2));
            Trial.due(parts == 1 ? "1 65" : "15 1", () -> Trial.bytes(v, 3, 8, 2));
            Trial.due(parts == 1 ? 0 : 1, () -> v.peek(3, 16));
            Trial.due(0, () -> v.peek(3, 24));
            int inLast = n - 5 * (parts - 1);
            for (int i = 0; i < 5; i++) {
                int k = 3 + i;
                Trial.due(i < inLast ? 'a' + 5 * (parts - 1) + i : 0, () -> v.peek(3, k));
            }
        }
    }

    private static void firstLetterOrDigitByCharacter() {
        for (int c = 33; c <= 126; c++) {
            if (c == '/') {
                continue;
            }
            boolean counts = isCapitalOrDigit(Character.toUpperCase(c));
            char lead = counts ? (char) Character.toUpperCase(c) : 'B';
            char alone = counts ? (char) Character.toUpperCase(c) : '_';
            char some = (char) c;
            Trial.due(Trial.name(lead + "~1"), () -> Trial.at(new Volume(), "." + some + "b7").make(false, 0));
            Trial.due(Trial.name(alone + "~1"), () -> Trial.at(new Volume(), "........." + some).make(false, 0));
        }
    }

    /** Neither what was wiped nor the end of the buffer. */
    private static void nothingBehindTheNameCounts() {
        Volume v = Trial.at(new Volume(), "..A");
        Trial.due(Trial.name("_~1"), () -> Trial.at(v, "..").make(false, 1));
        Trial.due("46 46 0 0 0", () -> Trial.bytes(v, 3, 3, 5));
        Trial.at(v, "ABCD");
        Trial.due(Trial.name("AB"), () -> Trial.at(v, "AB").make(false, 1));
        Trial.due(-1, () -> Trial.at(v, "ABCD").look());
        Volume full = new Volume();
        String path = "abcdefghij";
        for (int names = 1; names <= 3; names++) {
            Trial.at(full, path).make(true, 0);
            path += "/abcdefghij";
        }
        Trial.at(full, path.substring(0, 33) + ".......");
        Trial.due(Trial.name("_~1"), () -> full.make(false, 5));
        Trial.due(5 * 256, () -> full.look());
        Trial.due(2, () -> full.write(0, 1L, 2, 6));
        Trial.due(1, () -> full.remove());
    }

    /** Six entries are in the way at most, as the new one needs two. */
    private static void leastDigitUpToSeven() {
        for (int missing = 1; missing <= 7; missing++) {
            Volume v = new Volume();
            for (int digit = 1, slot = 0; slot < 6; digit++) {
                if (digit != missing) {
                    Trial.putEntry(v, 2, slot++, 1, 'A', '~', '0' + digit, 0, 0, 0, 0);
                }
            }
            int least = missing;
            Trial.due(Trial.name("A~" + least), () -> Trial.at(v, "ab").make(false, 0));
            Trial.due(Trial.UNSUPPORTED, () -> Trial.at(v, "ac").make(false, 0));
        }
        Volume other = new Volume();
        Trial.putEntry(other, 2, 0, 1, 'A', '~', '0', 0, 0, 0, 0);
        Trial.putEntry(other, 2, 1, 1, 'A', '~', '2', 0, 0, 0, 0);
        Trial.putEntry(other, 2, 2, 1, 'B', '~', '1', 0, 0, 0, 0);
        Trial.putEntry(other, 2, 3, 1, 'A', '-', '1', 0, 0, 0, 0);
        Trial.due(Trial.name("A~1"), () -> Trial.at(other, "ab").make(false, 0));
        Trial.due(Trial.name("A~3"), () -> Trial.at(other, "ac").make(false, 0));
    }

    private static void shortNamesAlikeInLetters() {
        Volume v = new Volume();
        Trial.putEntry(v, 2, 0, 2, 'a', '~', '1', 9, 0, 0, 0);
        Trial.due(Trial.name("A~2"), () -> Trial.at(v, "ab").make(false, 0));
        Trial.due(-1, () -> Trial.at(v, "A~1").make(false, 0));
    }
}
