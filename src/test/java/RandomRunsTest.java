import java.util.ArrayList;
import java.util.HashMap;
import java.util.List;
import java.util.Locale;
import java.util.Map;
import java.util.Random;
import java.util.TreeMap;

/**
 * Runs of many calls beside a plain picture of the files, with failures and spoilt clusters: what is
 * refused or fails leaves everything as it was, and a disk that nobody poked needs no repair.
 */
final class RandomRunsTest {
    private static final String[] NAMES = {"A", "B7", "abc", "a.txt", "longername", "Zz", "..", "sixsix"};
    /** Behind it a run keeps some calls to look at all files. */
    private static final int LAST_STEP = 380;

    private static final class Node {
        final boolean directory;
        int time;
        byte[] bytes = new byte[0];

        Node(boolean directory, int time) {
            this.directory = directory;
            this.time = time;
        }
    }

    private final Random random;
    private final Volume v = new Volume();
    private final Map<String, Node> nodes = new TreeMap<>();

    private RandomRunsTest(long seed) {
        random = new Random(seed);
    }

    public static void main(String[] args) {
        Map<String, Integer> answers = new HashMap<>();
        for (long seed = 1; seed <= 400; seed++) {
            RandomRunsTest run = new RandomRunsTest(seed);
            while (run.v.calls() < LAST_STEP) {
                answers.merge(run.step(), 1, Integer::sum);
            }
            run.checkAll();
        }
        for (String kind : new String[] {"done", "-1", "-2", Trial.UNSUPPORTED}) {
            Trial.due(true, () -> answers.getOrDefault(kind, 0) > 100);
        }
        Trial.end();
    }

    private String type(String path) {
        Trial.at(v, path);
        return path.toLowerCase(Locale.ROOT);
    }

    private String randomPath() {
        StringBuilder path = new StringBuilder();
        List<String> directories = new ArrayList<>();
        for (Map.Entry<String, Node> node : nodes.entrySet()) {
            if (node.getValue().directory && node.getKey().length() < 30) {
                directories.add(node.getKey());
            }
        }
        if (!directories.isEmpty() && random.nextInt(3) > 0) {
            path.append(directories.get(random.nextInt(directories.size()))).append('/');
        }
        path.append(NAMES[random.nextInt(NAMES.length)]);
        String text = path.toString();
        return text.split("/").length > 4 || text.length() > 40 ? NAMES[0] : text;
    }

    private String existingFile() {
        List<String> files = new ArrayList<>();
        for (Map.Entry<String, Node> node : nodes.entrySet()) {
            if (!node.getValue().directory) {
                files.add(node.getKey());
            }
        }
        return files.isEmpty() ? NAMES[0] : files.get(random.nextInt(files.size()));
    }

    private String step() {
        if (random.nextInt(25) == 0) {
            v.spoil(random.nextInt(34));
        }
        if (random.nextInt(6) == 0) {
            v.fail(random.nextInt(12));
        }
        int what = random.nextInt(10);
        String path = type(what < 5 ? randomPath() : existingFile());
        String answer = what < 4 ? make(path) : what < 5 ? remove(path) : what < 9 ? write(path) : cut(path);
        if (answer.equals("-2")) {
            Trial.due(1, () -> v.peek(-1, 4));
            Trial.due(Trial.STATE, () -> v.look());
            Trial.due(true, () -> v.mount());
        }
        check(path);
        return answer;
    }

    private interface Call {
        int answer();
    }

    private String answer(Call call) {
        try {
            int got = call.answer();
            return got < 0 ? "" + got : "done";
        } catch (UnsupportedOperationException e) {
            return Trial.UNSUPPORTED;
        }
    }

    private boolean parentThere(String path) {
        int slash = path.lastIndexOf('/');
        if (slash < 0) {
            return true;
        }
        Node parent = nodes.get(path.substring(0, slash));
        return parent != null && parent.directory;
    }

    private String make(String path) {
        boolean directory = random.nextInt(3) == 0;
        int time = random.nextInt(256);
        String answer = answer(() -> v.make(directory, time));
        Trial.due(!parentThere(path) || nodes.containsKey(path), () -> answer.equals("-1"));
        if (answer.equals("done")) {
            nodes.put(path, new Node(directory, time));
        }
        return answer;
    }

    private String remove(String path) {
        String answer = answer(() -> v.remove());
        boolean full = false;
        for (String other : nodes.keySet()) {
            full |= other.startsWith(path + "/");
        }
        Trial.due(!nodes.containsKey(path) || full, () -> answer.equals("-1"));
        if (answer.equals("done")) {
            nodes.remove(path);
        }
        return answer;
    }

    private String write(String path) {
        Node node = nodes.get(path);
        boolean file = node != null && !node.directory;
        int size = file ? node.bytes.length : 0;
        int at = random.nextInt(3) > 0 ? size : random.nextInt(size + 2);
        int n = 1 + random.nextInt(8);
        int time = random.nextInt(256);
        long bytes = random.nextLong();
        String answer = answer(() -> v.write(at, bytes, n, time));
        Trial.due(!file || at > size, () -> answer.equals("-1"));
        Trial.due(true, () -> at + n <= 192 || answer.equals(Trial.UNSUPPORTED) || answer.equals("-1"));
        if (answer.equals("done")) {
            byte[] grown = java.util.Arrays.copyOf(node.bytes, Math.max(size, at + n));
            for (int i = 0; i < n; i++) {
                grown[at + i] = (byte) (bytes >>> 8 * (n - 1 - i));
            }
            node.bytes = grown;
            node.time = time;
        }
        return answer;
    }

    private String cut(String path) {
        Node node = nodes.get(path);
        boolean file = node != null && !node.directory;
        int size = file ? node.bytes.length : 0;
        int n = random.nextInt(size + 2);
        String answer = answer(() -> v.cut(n));
        Trial.due(!file || n > size, () -> answer.equals("-1"));
        if (answer.equals("done")) {
            node.bytes = java.util.Arrays.copyOf(node.bytes, n);
        }
        return answer;
    }

    private void check(String path) {
        Node node = nodes.get(path);
        if (node == null) {
            Trial.due(-1, () -> v.look());
            return;
        }
        int due = node.bytes.length + 256 * node.time + (node.directory ? 65536 : 0);
        Trial.due(due, () -> v.look() & 0x1ffff);
        if (node.bytes.length > 0) {
            int k = random.nextInt(node.bytes.length);
            Trial.due(node.bytes[k] & 255, () -> v.read(k));
            Trial.due(-1, () -> v.read(node.bytes.length));
        }
    }

    private void checkAll() {
        int used = 1;
        for (Map.Entry<String, Node> node : nodes.entrySet()) {
            used += node.getValue().directory ? 1 : (node.getValue().bytes.length + 63) / 64;
            if (v.calls() < Volume.CALLS - 15) {
                check(type(node.getKey()));
            }
        }
        int due = 30 - used;
        Trial.due(due, () -> v.peek(-1, 2) + v.peek(-1, 3));
        Trial.due(0, () -> v.repair());
    }
}
