import java.util.HashMap;
import java.util.Locale;
import java.util.Map;
import java.util.Random;

/**
 * Runs of calls on FatVolume and on PlainVolume side by side, on disks that are damaged by pokes at
 * random: every answer and every exception is the same, and so is the whole disk in the end.
 */
final class PlainRunsTest {
    private static final String[] NAMES = {
        "A", "b", "C7", "ABC", "abc", "A~1", "B~1", "_~1", "..", "a.txt", "apple", "apples", "A.TXT", "longername",
        "LONGERNAME", "{}", "7z", "bc"};
    private static final int[] KINDS = {0, 0, 1, 1, 2, 2, 2, 15, 15, 7, 255};
    private static final int[] ORDERS = {1, 2, 65, 66, 64, 67, 129};
    private static final int[] ODD = {0, 1, 32, 33, 63, 64, 65, 127, 128, 129, 191, 192, 193, 253, 254, 255};
    /** Seeing the whole disk at the end needs calls of its own. */
    private static final int LAST_STEP = 330;

    private final Random random;
    private final int damage;
    private final Volume v = new Volume();
    private final PlainVolume plain = new PlainVolume();
    private final Map<String, Integer> answers;

    private PlainRunsTest(long seed, Map<String, Integer> answers) {
        random = new Random(seed);
        damage = (int) (seed % 4);
        this.answers = answers;
    }

    public static void main(String[] args) {
        int runs = args.length > 0 ? Integer.parseInt(args[0]) : 500;
        Map<String, Integer> answers = new HashMap<>();
        for (long seed = 1; seed <= runs; seed++) {
            PlainRunsTest run = new PlainRunsTest(seed, answers);
            while (run.v.calls() < LAST_STEP) {
                run.step();
            }
            Trial.due(run.plain.disk(), () -> run.v.disk());
        }
        for (String call : new String[] {"make", "remove", "write", "cut"}) {
            for (String kind : new String[] {"done", "-1", "-2", Trial.UNSUPPORTED, Trial.STATE, Trial.ARGUMENT}) {
                Trial.due(true, () -> answers.getOrDefault(call + " " + kind, 0) > 0);
            }
        }
        if (args.length > 0) {
            System.out.println(new java.util.TreeMap<>(answers));
        }
        Trial.end();
    }

    private void same(String call, Trial.Call real, Trial.Call due) {
        Object want;
        try {
            want = due.answer();
        } catch (RuntimeException e) {
            want = e.getClass().getSimpleName();
        }
        boolean done = want instanceof Integer && (Integer) want >= 0;
        answers.merge(call + " " + (done ? "done" : want), 1, Integer::sum);
        Trial.due(want, real);
    }

    private int any(int... numbers) {
        return numbers[random.nextInt(numbers.length)];
    }

    private int anyCluster() {
        return random.nextInt(3) == 0 ? any(ODD) : 2 + random.nextInt(random.nextBoolean() ? 8 : 30);
    }

    private int anyByte() {
        return random.nextInt(3) == 0 ? any(ODD) : random.nextInt(256);
    }

    private void step() {
        if (random.nextInt(3) > 0) {
            typePath();
        }
        int what = random.nextInt(100);
        if (what < 70) {
            onPath(what);
        } else if (what < 76) {
            int n = random.nextInt(4) == 0 ? random.nextInt(44) - 2 : random.nextInt(9);
            same("fail", () -> v.fail(n), () -> plain.fail(n));
        } else if (what < 78) {
            int c = random.nextInt(34);
            same("spoil", () -> v.spoil(c), () -> plain.spoil(c));
        } else if (what < 81) {
            same("repair", () -> v.repair(), () -> plain.repair());
        } else if (what < 84) {
            int where = random.nextInt(36) - 2;
            int k = random.nextInt(68) - 2;
            same("peek", () -> v.peek(where, k), () -> plain.peek(where, k));
        } else {
            for (int i = 0; i < damage; i++) {
                damage();
            }
            if (random.nextInt(30) == 0) {
                fillTable();
            }
        }
        if (plain.peek(-1, 4) == 1 ? random.nextInt(2) == 0 : random.nextInt(40) == 0) {
            same("mount", () -> v.mount(), () -> plain.mount());
        }
    }

    private void typePath() {
        v.wipe();
        plain.wipe();
        String path = random.nextInt(4) == 0 ? anyPath() : pathOnDisk();
        for (int from = 0; from < path.length(); from += 8) {
            long eight = Trial.packed(path.substring(from, Math.min(path.length(), from + 8)));
            same("type", () -> v.type(eight), () -> plain.type(eight));
        }
    }

    private String anyPath() {
        int names = random.nextInt(20) == 0 ? 5 : 1 + random.nextInt(1 + random.nextInt(4));
        StringBuilder path = new StringBuilder();
        for (int i = 0; i < names; i++) {
            path.append(i == 0 ? "" : "/").append(NAMES[random.nextInt(NAMES.length)]);
        }
        if (random.nextInt(20) == 0) {
            path.setLength(random.nextInt(path.length()));
        }
        return path.toString();
    }

    /** Goes down from the root by entries that are there; the last name may be a new one. */
    private String pathOnDisk() {
        int cluster = plain.peek(-1, 1);
        String path = "";
        for (int names = 1; names <= 4 && cluster >= 2 && cluster <= 31; names++) {
            int entry = 8 * random.nextInt(8);
            for (int i = 0; i < 8 && plain.peek(cluster, entry) != 1 && plain.peek(cluster, entry) != 2; i++) {
                entry = (entry + 8) % 64;
            }
            if (random.nextInt(8) == 0 || plain.peek(cluster, entry) == 0) {
                return path + NAMES[random.nextInt(NAMES.length)];
            }
            path += nameOf(cluster, entry);
            if (plain.peek(cluster, entry) != 2 || random.nextInt(5) == 0) {
                return path;
            }
            path += "/";
            cluster = plain.peek(cluster, entry + 4);
        }
        return path + NAMES[random.nextInt(NAMES.length)];
    }

    /** The short name, or what the long entries before it would say. */
    private String nameOf(int cluster, int entry) {
        boolean two = entry >= 16 && plain.peek(cluster, entry - 7) == 1;
        String name = "";
        if (entry > 0 && plain.peek(cluster, entry - 8) == 15 && random.nextBoolean()) {
            name = text(cluster, entry - 5, 5) + (two ? text(cluster, entry - 13, 5) : "");
        }
        name = name.isEmpty() ? text(cluster, entry + 1, 3) : name;
        return random.nextInt(3) == 0 ? name.toLowerCase(Locale.ROOT) : name;
    }

    private String text(int cluster, int from, int n) {
        String text = "";
        for (int k = from; k < from + n; k++) {
            int c = plain.peek(cluster, k);
            text += c >= 33 && c <= 126 ? "" + (char) c : "";
        }
        return text;
    }

    private void onPath(int what) {
        if (what < 20) {
            boolean directory = random.nextInt(5) < 2;
            int time = random.nextInt(40) == 0 ? any(-1, 256) : anyByte();
            same("make", () -> v.make(directory, time), () -> plain.make(directory, time));
        } else if (what < 27) {
            same("remove", () -> v.remove(), () -> plain.remove());
        } else if (what < 40) {
            write();
        } else if (what < 47) {
            for (int i = random.nextInt(25); i >= 0 && findsFile(); i--) {
                write();
            }
        } else if (what < 55) {
            int n = random.nextInt(4) == 0 ? any(ODD) : random.nextInt(Math.max(1, size()) + 2) - 1;
            same("cut", () -> v.cut(n), () -> plain.cut(n));
        } else if (what < 62) {
            int k = random.nextInt(4) == 0 ? any(ODD) : random.nextInt(size() + 2) - 1;
            same("read", () -> v.read(k), () -> plain.read(k));
        } else {
            same("look", () -> v.look(), () -> plain.look());
        }
    }

    private void write() {
        int at = random.nextInt(8) == 0 ? random.nextInt(200) - 2 : size();
        int n = random.nextInt(30) == 0 ? any(-1, 0, 9) : 1 + random.nextInt(8);
        int time = random.nextInt(40) == 0 ? any(-1, 256) : anyByte();
        long bytes = random.nextLong();
        same("write", () -> v.write(at, bytes, n, time), () -> plain.write(at, bytes, n, time));
    }

    /** The size of what the path finds, to have as many calls as can be that are done. */
    private int size() {
        return Math.max(0, look()) & 255;
    }

    private boolean findsFile() {
        return look() >= 0 && (look() >> 16 & 1) == 0;
    }

    private int look() {
        try {
            return plain.look();
        } catch (RuntimeException e) {
            return -1;
        }
    }

    private void damage() {
        int root = plain.peek(-1, 1);
        int active = plain.peek(-1, 0);
        int entry = 8 * random.nextInt(8);
        int directory = random.nextInt(2) == 0 ? root : 2 + random.nextInt(12);
        switch (random.nextInt(9)) {
            case 0: poke(active, random.nextInt(32), any(0, 0, 254, 255, anyCluster())); break;
            case 1: poke(active, 2 + random.nextInt(10), any(0, 254, 255, anyCluster(), anyCluster())); break;
            case 2: poke(directory, entry, any(KINDS)); break;
            case 3: poke(directory, entry + 4, any(root, anyCluster())); break;
            case 4: poke(directory, entry + 5, anyByte()); break;
            case 5: poke(directory, entry + 1, random.nextBoolean() ? any(ORDERS) : any('A', 'a', 'B', 0, 200)); break;
            case 6: poke(directory, entry + 1 + random.nextInt(7), any('A', 'a', '~', '1', 0, anyByte())); break;
            case 7: pokeLong(directory, random.nextInt(7)); break;
            default: poke(random.nextInt(34) - 1, random.nextInt(66) - 1, random.nextInt(260) - 2); break;
        }
    }

    /** Leaves some five clusters free. */
    private void fillTable() {
        for (int c = 2; c < 32; c++) {
            if (plain.peek(plain.peek(-1, 0), c) == 0 && random.nextInt(6) > 0) {
                poke(plain.peek(-1, 0), c, any(254, 255, 255));
            }
        }
    }

    private void poke(int where, int k, int byteThere) {
        same("poke", () -> v.poke(where, k, byteThere), () -> plain.poke(where, k, byteThere));
    }

    /** A long entry with the sum of what stands behind it or one farther on. */
    private void pokeLong(int directory, int entry) {
        int of = 8 * Math.min(7, entry + 1 + random.nextInt(2));
        int sum = 0;
        for (int i = 1; i <= 3; i++) {
            sum += plain.peek(directory, of + i) << 3 - i;
        }
        poke(directory, 8 * entry, 15);
        poke(directory, 8 * entry + 1, any(ORDERS));
        poke(directory, 8 * entry + 2, sum & 255);
        poke(directory, 8 * entry + 3, any('A', 'a', 'b', '.'));
        poke(directory, 8 * entry + 4, any(0, 'b', 'B'));
    }
}
