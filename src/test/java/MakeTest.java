/** Promise 4: make. */
final class MakeTest {
    public static void main(String[] args) {
        ownShortNames();
        oneLongEntry();
        twoLongEntries();
        firstLetterOrDigit();
        leastDigit();
        digitsLookAtShortNamesAlone();
        emptyDirectory();
        times();
        whatIsThereOrIsNot();
        firstPlaceWhereAllFit();
        noPlace();
        otherKindsTakePlace();
        freeEntriesAreWrittenOver();
        inDirectoriesBelow();
        Trial.end();
    }

    private static void ownShortNames() {
        for (String text : new String[] {"A", "Z9", "DOC", "0", "09A", "AZZ"}) {
            Volume v = Trial.at(new Volume(), text);
            Trial.due(Trial.name(text), () -> v.make(false, 7));
            int name = Trial.name(text);
            String due = "1 " + (name >> 16) + " " + (name >> 8 & 255) + " " + (name & 255) + " 0 0 0 7";
            Trial.due(due, () -> Trial.entry(v, 3, 0));
            Trial.due("0 0 0 0 0 0 0 0", () -> Trial.entry(v, 3, 1));
        }
    }

    private static void oneLongEntry() {
        Volume v = Trial.at(new Volume(), "abcde");
        Trial.due(Trial.name("A~1"), () -> v.make(false, 7));
        Trial.due("15 65 49 97 98 99 100 101", () -> Trial.entry(v, 3, 0));
        Trial.due("1 65 126 49 0 0 0 7", () -> Trial.entry(v, 3, 1));
        Trial.due("0 0 0 0 0 0 0 0", () -> Trial.entry(v, 3, 2));
        for (String text : new String[] {"a", "ABCD", "A1_", "Ab", "A-", "AB@", "AB["}) {
            Volume w = Trial.at(new Volume(), text);
            Trial.due(Trial.name("A~1"), () -> w.make(false, 7));
            Trial.due("15 65", () -> Trial.bytes(w, 3, 0, 2));
            Trial.due("1 65 126 49 0 0 0 7", () -> Trial.entry(w, 3, 1));
        }
    }

    private static void twoLongEntries() {
        Volume v = Trial.at(new Volume(), "README");
        Trial.due(Trial.name("R~1"), () -> v.make(false, 255));
        Trial.due("15 66 117 69 0 0 0 0", () -> Trial.entry(v, 3, 0));
        Trial.due("15 1 117 82 69 65 68 77", () -> Trial.entry(v, 3, 1));
        Trial.due("1 82 126 49 0 0 0 255", () -> Trial.entry(v, 3, 2));
        Volume w = Trial.at(new Volume(), "0123456789");
        Trial.due(Trial.name("0~1"), () -> w.make(true, 0));
        Trial.due("15 66 237 53 54 55 56 57", () -> Trial.entry(w, 4, 0));
        Trial.due("15 1 237 48 49 50 51 52", () -> Trial.entry(w, 4, 1));
        Trial.due("2 48 126 49 3 0 0 0", () -> Trial.entry(w, 4, 2));
    }

    private static void firstLetterOrDigit() {
        String[][] names = {{".x", "X~1"}, {"..", "_~1"}, {"-9a", "9~1"}, {"a9", "A~1"}, {"~~z", "Z~1"}, {"_a", "A~1"},
            {"+++++++++q", "Q~1"}, {"@[`{:", "_~1"}, {"^Z", "Z~1"}, {"z1", "Z~1"}, {"#0", "0~1"}, {"a", "A~1"}};
        for (String[] name : names) {
            Volume v = Trial.at(new Volume(), name[0]);
            Trial.due(Trial.name(name[1]), () -> v.make(false, 0));
        }
    }

    private static void leastDigit() {
        Volume v = new Volume();
        String[] names = {"aa", "ab", "ac", "ad"};
        for (int i = 0; i < 4; i++) {
            int digit = i + 1;
            String text = names[i];
            Trial.due(Trial.name("A~" + digit), () -> Trial.at(v, text).make(false, 0));
        }
        Trial.at(v, "ac").remove();
        Trial.due(Trial.name("A~3"), () -> Trial.at(v, "ae").make(false, 0));
        Volume w = new Volume();
        for (int i = 0; i < 6; i++) {
            Trial.putEntry(w, 2, i, 1 + i % 2, 'A', '~', '1' + i, 0, 0, 0, 0);
        }
        Trial.due(Trial.name("A~7"), () -> Trial.at(w, "ax").make(false, 0));
        Volume x = new Volume();
        Trial.putEntry(x, 2, 0, 1, 'a', '~', '1', 0, 0, 0, 0);
        Trial.due(Trial.name("A~2"), () -> Trial.at(x, "ax").make(false, 0));
    }

    private static void digitsLookAtShortNamesAlone() {
        Volume v = new Volume();
        Trial.due(Trial.name("A~1"), () -> Trial.at(v, "a~2").make(false, 0));
        Trial.due(Trial.name("A~2"), () -> Trial.at(v, "ab").make(false, 0));
        Trial.due(Trial.name("B~1"), () -> Trial.at(v, "bb").make(false, 0));
        Volume w = new Volume();
        Trial.putEntry(w, 2, 0, 7, 'A', '~', '1', 0, 0, 0, 0);
        Trial.putEntry(w, 2, 1, 0, 'A', '~', '1', 0, 0, 0, 0);
        Trial.putEntry(w, 2, 2, 15, 'A', '~', '1', 0, 0, 0, 0);
        Trial.putEntry(w, 2, 3, 1, 'A', '~', 0, 0, 0, 0, 0);
        Trial.due(Trial.name("A~1"), () -> Trial.at(w, "ab").make(false, 0));
    }

    private static void emptyDirectory() {
        Volume v = new Volume();
        Trial.put(v, 3, 0, 1, 'X', 0, 0, 0, 0, 0, 0);
        Trial.put(v, 3, 63, 9);
        Trial.due(Trial.name("D"), () -> Trial.at(v, "D").make(true, 3));
        Trial.due("2 68 0 0 3 0 0 3", () -> Trial.entry(v, 4, 0));
        for (int k = 0; k < 64; k++) {
            int at = k;
            Trial.due(0, () -> v.peek(3, at));
        }
        Trial.due("0 255 255 0", () -> Trial.bytes(v, 1, 2, 4));
        Trial.due(1, () -> v.remove());
    }

    private static void times() {
        for (int time : new int[] {-1, 256, Integer.MIN_VALUE, Integer.MAX_VALUE}) {
            Volume v = Trial.at(new Volume(), "A");
            Trial.due(Trial.ARGUMENT, () -> v.make(false, time));
            Trial.due(Trial.ARGUMENT, () -> v.make(true, time));
            Trial.due(2, () -> v.peek(-1, 1));
        }
        for (int time : new int[] {0, 1, 255}) {
            Volume v = Trial.at(new Volume(), "A");
            v.make(false, time);
            Trial.due(256 * time, () -> v.look());
        }
    }

    private static void whatIsThereOrIsNot() {
        Volume v = Trial.withFile("readme");
        String before = Trial.disk(v);
        for (String path : new String[] {"README", "r~1", "R~1", "X/Y", "README/X"}) {
            Trial.due(-1, () -> Trial.at(v, path).make(false, 2));
            Trial.due(-1, () -> Trial.at(v, path).make(true, 2));
        }
        Trial.due(before, () -> Trial.disk(v));
    }

    private static void firstPlaceWhereAllFit() {
        Volume v = new Volume();
        for (String path : new String[] {"A", "B", "C", "D", "E", "F"}) {
            Trial.at(v, path).make(false, 0);
        }
        for (String path : new String[] {"B", "D", "E"}) {
            Trial.at(v, path).remove();
        }
        Trial.due(Trial.name("X~1"), () -> Trial.at(v, "xxx").make(false, 8));
        int root = v.peek(-1, 1);
        Trial.due("0 0 0 0 0 0 0 0", () -> Trial.entry(v, root, 1));
        Trial.due("15 65 141 120 120 120 0 0", () -> Trial.entry(v, root, 3));
        Trial.due("1 88 126 49 0 0 0 8", () -> Trial.entry(v, root, 4));
        Trial.due(Trial.UNSUPPORTED, () -> Trial.at(v, "yyyyyy").make(false, 8));
        Trial.due(Trial.name("Y~1"), () -> Trial.at(v, "yyyyy").make(false, 8));
        int later = v.peek(-1, 1);
        Trial.due("1 89 126 49 0 0 0 8", () -> Trial.entry(v, later, 7));
        Trial.due(Trial.UNSUPPORTED, () -> Trial.at(v, "z").make(false, 8));
        Trial.due(Trial.name("Z"), () -> Trial.at(v, "Z").make(false, 8));
        int last = v.peek(-1, 1);
        Trial.due("1 90 0 0 0 0 0 8", () -> Trial.entry(v, last, 1));
    }

    private static void noPlace() {
        Volume v = new Volume();
        for (int i = 0; i < 8; i++) {
            String path = "" + i;
            Trial.due(Trial.name(path), () -> Trial.at(v, path).make(i(path) % 2 == 0, 0));
        }
        String before = Trial.disk(v);
        Trial.due(Trial.UNSUPPORTED, () -> Trial.at(v, "A").make(false, 0));
        Trial.due(Trial.UNSUPPORTED, () -> Trial.at(v, "A").make(true, 0));
        Trial.due(-1, () -> Trial.at(v, "7").make(true, 0));
        Trial.due(before, () -> Trial.disk(v));
        Trial.due(Trial.name("A"), () -> Trial.at(v, "0/A").make(false, 0));
    }

    private static int i(String digit) {
        return digit.charAt(0) - '0';
    }

    private static void otherKindsTakePlace() {
        Volume v = new Volume();
        Trial.putEntry(v, 2, 0, 7);
        Trial.putEntry(v, 2, 1, 15);
        Trial.putEntry(v, 2, 3, 255);
        Trial.at(v, "a").make(false, 0);
        Trial.due("7 0 0 0 0 0 0 0", () -> Trial.entry(v, 3, 0));
        Trial.due("15 0 0 0 0 0 0 0", () -> Trial.entry(v, 3, 1));
        Trial.due("15 65 49 97 0 0 0 0", () -> Trial.entry(v, 3, 4));
    }

    private static void freeEntriesAreWrittenOver() {
        Volume v = new Volume();
        Trial.putEntry(v, 2, 0, 0, 9, 9, 9, 9, 9, 9, 9);
        Trial.putEntry(v, 2, 1, 0, 9, 9, 9, 9, 9, 9, 9);
        Trial.putEntry(v, 2, 2, 0, 9, 9, 9, 9, 9, 9, 9);
        Trial.at(v, "a").make(false, 4);
        Trial.due("15 65 49 97 0 0 0 0", () -> Trial.entry(v, 3, 0));
        Trial.due("1 65 126 49 0 0 0 4", () -> Trial.entry(v, 3, 1));
        Trial.due("0 9 9 9 9 9 9 9", () -> Trial.entry(v, 3, 2));
    }

    private static void inDirectoriesBelow() {
        Volume v = new Volume();
        Trial.at(v, "D").make(true, 1);
        Trial.at(v, "D/E").make(true, 2);
        Trial.due(Trial.name("D~1"), () -> Trial.at(v, "d/e/d.x").make(false, 3));
        Trial.due(3 * 256, () -> Trial.at(v, "D/E/D~1").look());
        Trial.due(-1, () -> Trial.at(v, "D/D~1").look());
        Trial.due(Trial.name("D~1"), () -> Trial.at(v, "d/d.x").make(false, 4));
        Trial.due(0, () -> v.repair());
    }
}
