/** The edges that the promises 1 to 14 name for the calls: numbers, order of answers, refused calls. */
final class CallEdgesTest {
    private static final int LEAST = Integer.MIN_VALUE;
    private static final int MOST = Integer.MAX_VALUE;
    private static final String FULL = "abcdefghij/abcdefghij/abcdefghij/abcdefg";

    private interface Act {
        Object on(Volume v);
    }

    public static void main(String[] args) {
        typeUpToForty();
        typeRefusesWholeWords();
        typeOfZerosAlone();
        wipeOfAnyBuffer();
        bufferStaysAsItIs();
        whatComesFirst();
        whatAnswersWhileDown();
        refusedCallsChangeNothing();
        refusedCallsLeaveTheToldFailure();
        timesOfMake();
        placeForOneTwoOrThreeEntries();
        removeOfFullAndEmptyDirectories();
        writeNumbers();
        writePlaces();
        writeOfEachCountOfBytes();
        writeUpToTheLastByte();
        cutNumbers();
        cutAboveTheLimit();
        cutOfNothing();
        readNumbers();
        lookOfLargestNumbers();
        failNumbers();
        failAtEachWrite();
        spoilNumbers();
        mountTellsNoFailure();
        pokeAndPeekNumbers();
        peekAboutTheDisk();
        Trial.end();
    }

    private static void typeUpToForty() {
        for (int length = 0; length <= 40; length++) {
            for (int more = 0; more <= 8; more++) {
                Volume v = Trial.at(new Volume(), FULL.substring(0, length));
                boolean fits = length + more <= 40;
                String next = "ABCDEFGH".substring(0, more);
                Trial.due(fits, () -> v.type(Trial.packed(next)));
                int room = 40 - length - (fits ? more : 0);
                for (int i = 0; i < room; i++) {
                    Trial.due(true, () -> v.type('x'));
                }
                Trial.due(false, () -> v.type('x'));
            }
        }
    }

    private static void typeRefusesWholeWords() {
        for (int wrong : new int[] {1, 32, 127, 128, 255}) {
            for (int shift = 0; shift < 64; shift += 8) {
                long word = 0x4344454647484950L & ~(255L << shift) | (long) wrong << shift;
                Volume v = Trial.at(new Volume(), "AB");
                Trial.due(false, () -> v.type(word));
                Trial.due(Trial.name("AB"), () -> v.make(false, 0));
            }
        }
        for (int right : new int[] {33, 126}) {
            for (int shift = 0; shift < 64; shift += 8) {
                long word = (long) right << shift;
                Volume v = Trial.at(new Volume(), "AB");
                Trial.due(true, () -> v.type(word));
                Trial.due(Trial.name("A~1"), () -> v.make(false, 0));
                Trial.due("65 66 " + right + " 0 0", () -> Trial.bytes(v, 3, 3, 5));
            }
        }
    }

    private static void typeOfZerosAlone() {
        Volume v = new Volume();
        Trial.due(true, () -> v.type(0L));
        Trial.due(Trial.ARGUMENT, () -> v.look());
        Trial.at(v, FULL);
        Trial.due(true, () -> v.type(0L));
        Trial.due(-1, () -> v.look());
        Trial.due(false, () -> v.type(1L << 56));
        Trial.due(false, () -> v.type((long) 'A' << 56));
    }

    private static void wipeOfAnyBuffer() {
        for (String text : new String[] {"", "A", "/", "A/B/C/D/E", FULL}) {
            Volume v = Trial.at(new Volume(), text);
            v.wipe();
            Trial.due(Trial.ARGUMENT, () -> v.look());
            Trial.append(v, FULL);
            Trial.due(-1, () -> v.look());
            Trial.due(false, () -> v.type('h'));
        }
    }

    private static void bufferStaysAsItIs() {
        Volume v = Trial.at(new Volume(), "D");
        Trial.due(-1, () -> v.look());
        v.make(true, 0);
        Trial.append(v, "/ab");
        Trial.due(-1, () -> v.write(0, 1L, 1, 0));
        Trial.due(Trial.name("A~1"), () -> v.make(false, 1));
        Trial.due(-1, () -> v.make(false, 1));
        Trial.due(8, () -> v.write(0, 1L, 8, 1));
        Trial.due(Trial.ARGUMENT, () -> v.write(0, 1L, 9, 1));
        Trial.due(1, () -> v.read(7));
        Trial.due(3, () -> v.cut(5));
        v.repair();
        v.fail(1);
        Trial.due(-2, () -> v.remove());
        Trial.due(Trial.STATE, () -> v.remove());
        v.mount();
        Trial.due(5, () -> v.look() & 255);
        Trial.due(1, () -> v.remove());
        Trial.append(v, "c");
        Trial.due(-1, () -> v.look());
        v.make(false, 9);
        Trial.due(9 * 256, () -> Trial.at(v, "D/abc").look());
    }

    /** Down, then no path or a wrong number, then -1, then what is too much. */
    private static void whatComesFirst() {
        Volume v = Trial.withFile("F");
        Trial.fill(v, 192);
        Trial.leaveFree(v);
        for (String path : new String[] {"F/", "X/", "X/Y/"}) {
            Trial.at(v, path);
            Trial.due(Trial.ARGUMENT, () -> v.write(-1, 1L, 1, 1));
            Trial.due(Trial.ARGUMENT, () -> v.write(192, 1L, 1, 1));
            Trial.due(Trial.ARGUMENT, () -> v.cut(-1));
            Trial.due(Trial.ARGUMENT, () -> v.cut(193));
            Trial.due(Trial.ARGUMENT, () -> v.read(-1));
        }
        for (String path : new String[] {"X", "X/Y", "F/Y"}) {
            Trial.at(v, path);
            Trial.due(Trial.ARGUMENT, () -> v.write(0, 1L, 9, 1));
            Trial.due(Trial.ARGUMENT, () -> v.write(0, 1L, 1, 256));
            Trial.due(Trial.ARGUMENT, () -> v.make(false, 256));
            Trial.due(-1, () -> v.write(192, 1L, 8, 1));
            Trial.due(-1, () -> v.cut(193));
        }
        Trial.due(-1, () -> Trial.at(v, "F").write(193, 1L, 8, 1));
        Trial.due(Trial.UNSUPPORTED, () -> v.write(192, 1L, 8, 1));
        Trial.due(-1, () -> v.make(false, 0));
        Trial.due(-1, () -> Trial.at(v, "X/Y").make(false, 0));
        Trial.due(Trial.UNSUPPORTED, () -> Trial.at(v, "X").make(false, 0));
        fullDirectoryComesBehind();
    }

    private static void fullDirectoryComesBehind() {
        Volume v = new Volume();
        for (int slot = 0; slot < 8; slot++) {
            Trial.putEntry(v, 2, slot, 1, '0' + slot, 0, 0, 0, 0, 0, 0);
        }
        Trial.due(-1, () -> Trial.at(v, "7").make(false, 0));
        Trial.due(-1, () -> Trial.at(v, "7/A").make(false, 0));
        Trial.due(Trial.ARGUMENT, () -> Trial.at(v, "8").make(false, 256));
        Trial.due(Trial.UNSUPPORTED, () -> v.make(false, 255));
    }

    private static void whatAnswersWhileDown() {
        Volume v = Trial.at(new Volume(), "A");
        v.fail(1);
        v.make(true, 0);
        Act[] throwing = {w -> w.make(false, 0), w -> w.make(true, 256), w -> w.remove(), w -> w.write(0, 1L, 1, 0),
            w -> w.write(-1, 1L, 0, -1), w -> w.cut(0), w -> w.cut(-1), w -> w.read(0), w -> w.look(), w -> w.repair()};
        for (String path : new String[] {"A", "B", "", "/", "A/B/C/D/E"}) {
            Trial.at(v, path);
            for (Act act : throwing) {
                Trial.due(Trial.STATE, () -> act.on(v));
            }
        }
        for (int n : new int[] {-1, 0, 1, 40, 41}) {
            Trial.due(false, () -> v.fail(n));
        }
        Trial.due(true, () -> v.spoil(31));
        Trial.due(false, () -> v.spoil(31));
        Trial.due(true, () -> v.poke(9, 9, 9));
        Trial.due(false, () -> v.poke(9, 64, 9));
        Trial.due(9, () -> v.peek(9, 9));
        Trial.due(1, () -> v.peek(-1, 4));
        Trial.due(true, () -> v.type(0x41L));
        Trial.due(true, () -> v.mount());
    }

    /** F has 192 bytes, the directory D has an entry, E is empty, and the root has no place for two. */
    private static Volume crowded() {
        Volume v = Trial.withFile("F");
        Trial.fill(v, 192);
        Trial.at(v, "D").make(true, 0);
        Trial.at(v, "D/abc").make(false, 0);
        Trial.at(v, "E").make(true, 0);
        for (String name : new String[] {"1", "2", "3", "4"}) {
            Trial.at(v, name).make(false, 0);
        }
        return v;
    }

    private static final Object[][] REFUSED = {
        {"F", -1, (Act) v -> v.make(false, 1)},
        {"f", -1, (Act) v -> v.make(true, 1)},
        {"X/Y", -1, (Act) v -> v.make(true, 1)},
        {"F/Y", -1, (Act) v -> v.make(true, 1)},
        {"G", Trial.ARGUMENT, (Act) v -> v.make(false, 256)},
        {"G", Trial.ARGUMENT, (Act) v -> v.make(true, -1)},
        {"G/", Trial.ARGUMENT, (Act) v -> v.make(false, 1)},
        {"g", Trial.UNSUPPORTED, (Act) v -> v.make(false, 1)},
        {"g", Trial.UNSUPPORTED, (Act) v -> v.make(true, 1)},
        {"D", -1, (Act) v -> v.remove()},
        {"G", -1, (Act) v -> v.remove()},
        {"/G", Trial.ARGUMENT, (Act) v -> v.remove()},
        {"D", -1, (Act) v -> v.write(0, 1L, 1, 1)},
        {"G", -1, (Act) v -> v.write(0, 1L, 1, 1)},
        {"F", -1, (Act) v -> v.write(193, 1L, 1, 1)},
        {"F", -1, (Act) v -> v.write(-1, 1L, 1, 1)},
        {"F", Trial.ARGUMENT, (Act) v -> v.write(0, 1L, 0, 1)},
        {"F", Trial.ARGUMENT, (Act) v -> v.write(0, 1L, 9, 1)},
        {"F", Trial.ARGUMENT, (Act) v -> v.write(0, 1L, 1, 256)},
        {"F", Trial.ARGUMENT, (Act) v -> v.write(0, 1L, 1, -1)},
        {"F", Trial.UNSUPPORTED, (Act) v -> v.write(192, 1L, 1, 1)},
        {"F", Trial.UNSUPPORTED, (Act) v -> v.write(185, 1L, 8, 1)},
        {"D", -1, (Act) v -> v.cut(0)},
        {"G", -1, (Act) v -> v.cut(0)},
        {"F", -1, (Act) v -> v.cut(-1)},
        {"F", -1, (Act) v -> v.cut(193)},
        {"F", 0, (Act) v -> v.cut(192)},
        {"4", 0, (Act) v -> v.cut(0)},
        {"F", -1, (Act) v -> v.read(192)},
        {"D", -1, (Act) v -> v.read(0)},
        {"D/x", -1, (Act) v -> v.look()},
        {"F", false, (Act) v -> v.mount()},
        {"F", false, (Act) v -> v.spoil(1)},
        {"F", false, (Act) v -> v.spoil(32)},
        {"F", false, (Act) v -> v.poke(-1, 1, 3)},
        {"F", false, (Act) v -> v.poke(0, 32, 3)},
        {"F", false, (Act) v -> v.poke(2, 64, 3)},
        {"F", false, (Act) v -> v.poke(2, 0, 256)},
        {"F", false, (Act) v -> v.fail(41)},
        {"F", false, (Act) v -> v.fail(-1)},
        {"F", false, (Act) v -> v.type(32L)},
        {"F", 0, (Act) v -> v.repair()},
    };

    private static void refusedCallsChangeNothing() {
        String before = crowded().disk();
        for (Object[] row : REFUSED) {
            Volume v = Trial.at(crowded(), (String) row[0]);
            Act act = (Act) row[2];
            Trial.due(row[1], () -> act.on(v));
            Trial.due(row[1], () -> act.on(v));
            Trial.due(before, () -> v.disk());
        }
    }

    private static void refusedCallsLeaveTheToldFailure() {
        for (Object[] row : REFUSED) {
            Volume v = Trial.at(crowded(), (String) row[0]);
            Act act = (Act) row[2];
            v.fail(4);
            Trial.due(row[1], () -> act.on(v));
            Trial.due(1, () -> Trial.at(v, "1").remove());
            Trial.due(row[1], () -> act.on(Trial.at(v, (String) row[0])));
            Trial.due(-2, () -> Trial.at(v, "2").remove());
        }
    }

    private static void timesOfMake() {
        for (int time : new int[] {LEAST, -256, -1, 0, 1, 127, 128, 254, 255, 256, 511, MOST}) {
            for (boolean directory : new boolean[] {false, true}) {
                Volume v = Trial.at(new Volume(), "A");
                boolean right = time >= 0 && time <= 255;
                Trial.due(right ? (Object) Trial.name("A") : Trial.ARGUMENT, () -> v.make(directory, time));
                int due = !right ? -1 : 256 * time + (directory ? 65536 + 3 * 131072 : 0);
                Trial.due(due, () -> v.look());
            }
        }
    }

    /** The free entries of a full directory are told; the entries fit at the first place or nowhere. */
    private static void placeForOneTwoOrThreeEntries() {
        String[] names = {"N", "new", "newest"};
        for (int free = 0; free < 256; free++) {
            for (int need = 1; need <= 3; need++) {
                Volume v = new Volume();
                int place = -1;
                for (int slot = 7; slot >= 0; slot--) {
                    if ((free >> slot & 1) == 0) {
                        Trial.putEntry(v, 2, slot, 1, '0' + slot);
                    }
                    int fits = (1 << need) - 1 << slot;
                    place = slot + need <= 8 && (free & fits) == fits ? slot : place;
                }
                int at = place;
                int last = place + need - 1;
                String name = names[need - 1];
                Object due = place < 0 ? Trial.UNSUPPORTED : (Object) Trial.name(need == 1 ? "N" : "N~1");
                Trial.due(due, () -> Trial.at(v, name).make(false, 200));
                if (place >= 0) {
                    Trial.due(need == 1 ? "1 78" : need == 2 ? "15 65" : "15 66", () -> Trial.bytes(v, 3, 8 * at, 2));
                    Trial.due("1 78", () -> Trial.bytes(v, 3, 8 * last, 2));
                }
            }
        }
    }

    private static void removeOfFullAndEmptyDirectories() {
        for (int slot = 0; slot < 8; slot++) {
            Volume v = Trial.at(new Volume(), "D");
            v.make(true, 0);
            int at = 8 * slot;
            v.poke(3, at, 1);
            Trial.due(-1, () -> v.remove());
            v.poke(3, at, 0);
            for (int k = 1; k < 8; k++) {
                v.poke(3, at + k, 1);
            }
            Trial.due(1, () -> v.remove());
            Trial.due(29, () -> v.peek(-1, 2));
        }
    }

    private static void writeNumbers() {
        for (int n : new int[] {LEAST, -8, -1, 0, 9, 10, 16, 264, MOST}) {
            Volume v = Trial.withFile("F");
            Trial.due(Trial.ARGUMENT, () -> v.write(0, 1L, n, 1));
            Trial.due(256, () -> v.look());
        }
        for (int time : new int[] {LEAST, -1, 0, 255, 256, MOST}) {
            Volume v = Trial.withFile("F");
            boolean right = time == 0 || time == 255;
            Trial.due(right ? (Object) 1 : Trial.ARGUMENT, () -> v.write(0, 1L, 1, time));
            Trial.due(right ? 1 + 256 * time : 256, () -> v.look() & 0xffff);
        }
    }

    private static void writePlaces() {
        for (int size : new int[] {0, 1, 8, 63, 64, 65, 128, 184}) {
            Volume v = Trial.withFile("F");
            Trial.fill(v, size);
            for (int at : new int[] {LEAST, -8, -1, size + 1, size + 8, MOST - 7, MOST}) {
                Trial.due(-1, () -> v.write(at, 1L, 8, 1));
            }
            Trial.due(size, () -> v.look() & 255);
            Trial.due(Math.max(size, 1), () -> v.write(0, 99L, 1, 1));
            Trial.due(99, () -> v.read(0));
            int end = Math.max(size, 1);
            Trial.due(end + 1, () -> v.write(end, 98L, 1, 1));
            Trial.due(98, () -> v.read(end));
            Trial.due(-1, () -> v.read(end + 1));
        }
    }

    private static void writeOfEachCountOfBytes() {
        for (int n = 1; n <= 8; n++) {
            for (long bytes : new long[] {0L, -1L, Long.MIN_VALUE, 0x80FF7F0001FE8040L}) {
                Volume v = Trial.withFile("F");
                Trial.fill(v, 66);
                int count = n;
                Trial.due(Math.max(66, 60 + n), () -> v.write(60, bytes, count, 1));
                for (int i = -1; i <= n; i++) {
                    int at = 60 + i;
                    int own = at < 66 ? at + 1 : -1;
                    int due = i < 0 || i == n ? own : (int) (bytes >>> 8 * (n - 1 - i)) & 255;
                    Trial.due(due, () -> v.read(at));
                }
            }
        }
    }

    private static void writeUpToTheLastByte() {
        for (int n = 1; n <= 8; n++) {
            int count = n;
            Volume v = Trial.withFile("F");
            Trial.fill(v, 192);
            Trial.due(Trial.UNSUPPORTED, () -> v.write(193 - count, 1L, count, 1));
            Trial.due(192, () -> v.write(192 - count, 255L, count, 1));
            Trial.due(255, () -> v.read(191));
            Trial.due(-1, () -> v.read(192));
            Volume w = Trial.withFile("F");
            Trial.fill(w, 192 - n);
            Trial.due(192, () -> w.write(192 - count, 254L, count, 1));
            Trial.due(254, () -> w.read(191));
        }
    }

    private static void cutNumbers() {
        for (int size : new int[] {0, 1, 64, 65, 192}) {
            Volume v = Trial.withFile("F");
            Trial.fill(v, size);
            for (int n : new int[] {LEAST, -1, size + 1, 256, MOST}) {
                Trial.due(-1, () -> v.cut(n));
            }
            Trial.due(0, () -> v.cut(size));
            Trial.due(size, () -> v.look() & 255);
            if (size > 0) {
                Trial.due(1, () -> v.cut(size - 1));
                Trial.due(size - 1, () -> v.look() & 255);
                Trial.due(-1, () -> v.read(size - 1));
                Trial.due(-1, () -> v.cut(size));
            }
            Trial.due(Math.max(size - 1, 0), () -> v.cut(0));
            Trial.due(0, () -> v.look() & 255);
            Trial.due(29, () -> v.peek(-1, 2));
        }
    }

    private static void cutAboveTheLimit() {
        Volume v = Trial.at(new Volume(), "F");
        Trial.putEntry(v, 2, 0, 1, 'F', 0, 0, 20, 200, 0, 5);
        Trial.put(v, 0, 20, 21, 22, 23, 255);
        String before = v.disk();
        Trial.due(-1, () -> v.cut(201));
        Trial.due(Trial.UNSUPPORTED, () -> v.cut(199));
        Trial.due(Trial.UNSUPPORTED, () -> v.cut(193));
        Trial.due(before, () -> v.disk());
        Trial.due(8, () -> v.cut(192));
        Trial.due(192 + 5 * 256, () -> v.look() & 0xffff);
        Trial.due("0 0 0 0", () -> Trial.bytes(v, 1, 20, 4));
        Trial.due(0, () -> v.cut(192));
    }

    private static void cutOfNothing() {
        for (int size : new int[] {0, 1, 192}) {
            Volume v = Trial.withFile("F");
            Trial.fill(v, size);
            Trial.leaveFree(v);
            String before = v.disk();
            v.fail(1);
            Trial.due(0, () -> v.cut(size));
            Trial.due(before, () -> v.disk());
            Trial.due(0, () -> v.peek(-1, 4));
        }
    }

    private static void readNumbers() {
        for (int size : new int[] {0, 1, 64, 65, 192}) {
            Volume v = Trial.withFile("F");
            Trial.fill(v, size);
            for (int k : new int[] {LEAST, -64, -1, size, size + 1, 255, 256, MOST}) {
                Trial.due(-1, () -> v.read(k));
            }
            if (size > 0) {
                Trial.due(1, () -> v.read(0));
                Trial.due(size, () -> v.read(size - 1));
            }
        }
    }

    private static void lookOfLargestNumbers() {
        for (int[] e : new int[][] {{1, 0, 0, 0}, {1, 31, 255, 255}, {2, 31, 0, 255}, {1, 2, 1, 0}, {2, 2, 0, 1}, {1, 255, 255, 255}}) {
            Volume v = Trial.at(new Volume(), "A");
            Trial.putEntry(v, 2, 7, e[0], 'A', 0, 0, e[1], e[2], 77, e[3]);
            Trial.due(e[2] + 256 * e[3] + (e[0] == 2 ? 65536 : 0) + 131072 * e[1], () -> v.look());
        }
    }

    private static void failNumbers() {
        for (int n = -2; n <= 42; n++) {
            int number = n;
            Trial.due(n >= 0 && n <= 40, () -> new Volume().fail(number));
        }
        for (int n : new int[] {LEAST, -256, 256, 257, MOST}) {
            Trial.due(false, () -> new Volume().fail(n));
        }
        Volume v = Trial.at(new Volume(), "A");
        v.fail(2);
        Trial.due(false, () -> v.fail(41));
        Trial.due(false, () -> v.fail(-1));
        Trial.due(-2, () -> v.make(false, 0));
    }

    /** Each change here is three writes. */
    private static void failAtEachWrite() {
        for (int n = 1; n <= 40; n++) {
            Volume v = Trial.at(new Volume(), "A");
            v.fail(n);
            int changes = (n - 1) / 3;
            for (int i = 0; i < changes; i++) {
                boolean making = i % 2 == 0;
                Trial.due(making ? Trial.name("A") : 1, () -> making ? v.make(false, 0) : v.remove());
            }
            Trial.due(0, () -> v.peek(-1, 4));
            Trial.due(-2, () -> changes % 2 == 0 ? v.make(false, 0) : v.remove());
            Trial.due(1, () -> v.peek(-1, 4));
        }
    }

    private static void spoilNumbers() {
        for (int c = -3; c <= 34; c++) {
            Volume v = new Volume();
            int cluster = c;
            boolean there = c >= 2 && c <= 31;
            Trial.due(there, () -> v.spoil(cluster));
            Trial.due(false, () -> v.spoil(cluster));
            Trial.due(true, () -> v.spoil(cluster == 5 ? 6 : 5));
        }
        for (int c : new int[] {LEAST, -254, 258, MOST}) {
            Trial.due(false, () -> new Volume().spoil(c));
        }
    }

    private static void mountTellsNoFailure() {
        Volume v = Trial.at(new Volume(), "A");
        for (int n = 1; n <= 3; n++) {
            v.fail(n);
            Trial.due(false, () -> v.mount());
            Trial.due(-2, () -> v.make(false, 0));
            Trial.due(true, () -> v.mount());
            Trial.due(false, () -> v.mount());
        }
        for (int i = 0; i < 42; i++) {
            boolean making = i % 2 == 0;
            Trial.due(making ? Trial.name("A") : 1, () -> making ? v.make(false, 0) : v.remove());
        }
    }

    private static void pokeAndPeekNumbers() {
        for (int where = -3; where <= 34; where++) {
            int bytes = where < 0 || where > 31 ? 0 : where < 2 ? 32 : 64;
            for (int k : new int[] {LEAST, -64, -1, 0, 1, 31, 32, 33, 63, 64, 65, 96, MOST}) {
                Volume v = new Volume();
                int place = where;
                boolean there = k >= 0 && k < bytes;
                Trial.due(there, () -> v.poke(place, k, 200));
                Trial.due(there, () -> v.peek(place, k) == 200);
                Trial.due(true, () -> there || place == -1 || v.peek(place, k) == -1);
                for (int b : new int[] {LEAST, -1, 256, MOST}) {
                    Trial.due(false, () -> v.poke(place, k, b));
                }
                Trial.due(there, () -> v.poke(place, k, 0) && v.peek(place, k) == 0);
                Trial.due(there, () -> v.poke(place, k, 255) && v.peek(place, k) == 255);
            }
        }
    }

    private static void peekAboutTheDisk() {
        Volume v = Trial.at(new Volume(), "A");
        for (int k : new int[] {LEAST, -2, -1, 5, 6, 31, 63, MOST}) {
            Trial.due(-1, () -> v.peek(-1, k));
        }
        for (int c = 3; c < 32; c++) {
            int left = 31 - c;
            v.poke(0, c, 254);
            Trial.due(left, () -> v.peek(-1, 2));
            Trial.due(29 - left, () -> v.peek(-1, 3));
        }
        v.poke(0, 2, 254);
        Trial.due(30, () -> v.peek(-1, 3));
        v.poke(0, 31, 0);
        v.make(false, 0);
        Trial.due("1 31 1 28 0", () -> Trial.bytes(v, -1, 0, 5));
    }
}
