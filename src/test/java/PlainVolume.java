import java.util.ArrayList;
import java.util.Arrays;
import java.util.List;
import java.util.Locale;
import java.util.Map;
import java.util.Set;
import java.util.TreeMap;
import java.util.TreeSet;

/**
 * The document once more, sentence by sentence and with all that Java's library has: what FatVolume
 * answers is compared with what this answers. It shares no line with FatVolume.
 */
final class PlainVolume {
    /** The n-th write is not done, nor anything behind it. */
    private static final class Failure extends RuntimeException {
        private static final long serialVersionUID = 1;
    }

    /** A directory of the path as it was read, and which of its entries the path's name finds. */
    private static final class Step {
        final int cluster;
        final int[] bytes;
        final int entry;

        Step(int cluster, int[] bytes, String name) {
            this.cluster = cluster;
            this.bytes = bytes.clone();
            this.entry = find(bytes, name);
        }

        int get(int k) {
            return bytes[8 * entry + k];
        }

        void set(int k, int v) {
            bytes[8 * entry + k] = v;
        }

        boolean finds(int kind) {
            return entry >= 0 && get(0) == kind;
        }
    }

    private final int[][] tables = new int[2][32];
    private final int[][] clusters = new int[32][64];
    private final Set<Integer> spoilt = new TreeSet<>();
    private int active = 0;
    private int root = 2;
    private boolean down = false;
    private int toldFailure = 0;
    private String buffer = "";

    PlainVolume() {
        tables[0][2] = 255;
    }

    // The buffer

    boolean type(long eight) {
        String more = "";
        for (int shift = 56; shift >= 0; shift -= 8) {
            char c = (char) (eight >> shift & 0xff);
            if (c != 0) {
                more += c;
            }
        }
        if (!more.chars().allMatch(c -> c >= 33 && c <= 126) || buffer.length() + more.length() > 40) {
            return false;
        }
        buffer += more;
        return true;
    }

    void wipe() {
        buffer = "";
    }

    private void demandUp() {
        if (down) {
            throw new IllegalStateException();
        }
    }

    private String[] path(boolean othersAsSaid) {
        demandUp();
        String[] names = buffer.split("/", -1);
        boolean right = names.length <= 4 && Arrays.stream(names).allMatch(n -> n.matches("[!-~]{1,10}"));
        if (!right || !othersAsSaid) {
            throw new IllegalArgumentException();
        }
        return names;
    }

    // Names

    private static String text(int[] bytes, int from, int n) {
        String text = "";
        for (int i = from; i < from + n && bytes[i] != 0; i++) {
            text += (char) bytes[i];
        }
        return text;
    }

    private static String shortName(int[] directory, int entry) {
        return text(directory, 8 * entry + 1, 3);
    }

    private static int sum(String shortName) {
        String three = shortName + "\0\0\0";
        return (4 * three.charAt(0) + 2 * three.charAt(1) + three.charAt(2)) % 256;
    }

    private static boolean isLong(int[] directory, int entry, int order, int sum) {
        return entry >= 0 && directory[8 * entry] == 15 && directory[8 * entry + 1] == order
                && directory[8 * entry + 2] == sum;
    }

    /** The entries that give an entry its long name, order 1 first. */
    private static List<Integer> longEntries(int[] directory, int entry) {
        int sum = sum(shortName(directory, entry));
        if (isLong(directory, entry - 1, 65, sum)) {
            return List.of(entry - 1);
        }
        if (isLong(directory, entry - 2, 66, sum) && isLong(directory, entry - 1, 1, sum)) {
            return List.of(entry - 1, entry - 2);
        }
        return List.of();
    }

    private static String longName(int[] directory, int entry) {
        String name = "";
        for (int part : longEntries(directory, entry)) {
            name += text(directory, 8 * part + 3, 5);
        }
        return name;
    }

    private static boolean alike(String one, String other) {
        return small(one).equals(small(other));
    }

    /** Letters alone, as the bytes of a poked name can be above 126. */
    private static String small(String text) {
        String small = "";
        for (char c : text.toCharArray()) {
            small += c < 128 ? ("" + c).toLowerCase(Locale.ROOT) : "" + c;
        }
        return small;
    }

    private static boolean isFileOrDirectory(int[] directory, int entry) {
        return directory[8 * entry] == 1 || directory[8 * entry] == 2;
    }

    private static int find(int[] directory, String name) {
        for (int entry = 0; entry < 8; entry++) {
            if (isFileOrDirectory(directory, entry)
                    && (alike(name, longName(directory, entry)) || alike(name, shortName(directory, entry)))) {
                return entry;
            }
        }
        return -1;
    }

    private static boolean isOwnShortName(String name) {
        return name.matches("[A-Z0-9]{1,3}");
    }

    private static String newShortName(int[] directory, String name) {
        if (isOwnShortName(name)) {
            return name;
        }
        String usable = name.toUpperCase(Locale.ROOT).replaceAll("[^A-Z0-9]", "") + "_";
        for (int digit = 1; digit <= 9; digit++) {
            String made = usable.charAt(0) + "~" + digit;
            boolean there = false;
            for (int entry = 0; entry < 8; entry++) {
                there |= isFileOrDirectory(directory, entry) && alike(shortName(directory, entry), made);
            }
            if (!there) {
                return made;
            }
        }
        throw new UnsupportedOperationException();
    }

    private static boolean isCluster(int c) {
        return 2 <= c && c <= 31;
    }

    /** The directories of the path, or null when one of them is not there. */
    private List<Step> steps(String[] names) {
        List<Step> steps = new ArrayList<>();
        int cluster = root;
        for (String name : names) {
            if (!steps.isEmpty()) {
                Step above = steps.get(steps.size() - 1);
                if (!above.finds(2) || !isCluster(above.get(4))) {
                    return null;
                }
                cluster = above.get(4);
            }
            steps.add(new Step(cluster, clusters[cluster], name));
        }
        return steps;
    }

    private static Step last(List<Step> steps) {
        return steps.get(steps.size() - 1);
    }

    private List<Integer> chain(Step file) {
        List<Integer> chain = new ArrayList<>();
        int cluster = file.get(4);
        while (chain.size() * 64 < file.get(5) && isCluster(cluster)) {
            chain.add(cluster);
            cluster = tables[active][cluster];
        }
        return chain;
    }

    private List<Integer> bytesOf(Step file) {
        List<Integer> bytes = new ArrayList<>();
        for (int cluster : chain(file)) {
            for (int b : clusters[cluster]) {
                if (bytes.size() < file.get(5)) {
                    bytes.add(b);
                }
            }
        }
        return bytes;
    }

    // A change

    private final class Change {
        final int[] table = tables[active].clone();
        final Map<Integer, Boolean> taken = new TreeMap<>();

        int take(int[] bytes) {
            for (int c = 2; c <= 31; c++) {
                if (tables[active][c] == 0 && !taken.containsKey(c)) {
                    taken.put(c, true);
                    countWrite();
                    if (!spoilt.contains(c)) {
                        clusters[c] = bytes.clone();
                        table[c] = 255;
                        return c;
                    }
                    table[c] = 254;
                }
            }
            throw new UnsupportedOperationException();
        }

        void free(int cluster) {
            if (isCluster(cluster) && !taken.containsKey(cluster)) {
                table[cluster] = 0;
            }
        }

        int takeChain(List<Integer> bytes) {
            List<Integer> chain = new ArrayList<>();
            for (int from = 0; from < bytes.size(); from += 64) {
                int[] part = new int[64];
                for (int i = from; i < Math.min(from + 64, bytes.size()); i++) {
                    part[i - from] = bytes.get(i);
                }
                chain.add(take(part));
            }
            for (int i = 1; i < chain.size(); i++) {
                table[chain.get(i - 1)] = chain.get(i);
            }
            return chain.isEmpty() ? 0 : chain.get(0);
        }

        void finish(List<Step> steps) {
            int below = take(last(steps).bytes);
            free(last(steps).cluster);
            for (int level = steps.size() - 2; level >= 0; level--) {
                Step step = steps.get(level);
                step.set(4, below);
                below = take(step.bytes);
                free(step.cluster);
            }
            countWrite();
            tables[1 - active] = table.clone();
            countWrite();
            active = 1 - active;
            root = below;
        }
    }

    private void countWrite() {
        if (toldFailure > 0 && --toldFailure == 0) {
            down = true;
            throw new Failure();
        }
    }

    private interface Work {
        int on(Change change);
    }

    private int change(Work work) {
        try {
            return work.on(new Change());
        } catch (Failure e) {
            return -2;
        }
    }

    // Calls on paths

    int make(boolean directory, int time) {
        String[] names = path(time >= 0 && time <= 255);
        List<Step> steps = steps(names);
        if (steps == null || last(steps).entry >= 0) {
            return -1;
        }
        String name = names[names.length - 1];
        int[] home = last(steps).bytes;
        String made = newShortName(home, name);
        List<int[]> entries = new ArrayList<>();
        int parts = isOwnShortName(name) ? 0 : name.length() > 5 ? 2 : 1;
        for (int part = parts; part >= 1; part--) {
            String five = name.substring(5 * part - 5, Math.min(5 * part, name.length()));
            entries.add(bytes("\17" + (char) (part == parts ? 64 + part : part) + (char) sum(made) + five));
        }
        int place = place(home, parts + 1);
        int[] own = bytes((directory ? "\2" : "\1") + made);
        own[7] = time;
        entries.add(own);
        return change(change -> {
            own[4] = directory ? change.take(new int[64]) : 0;
            for (int i = 0; i <= parts; i++) {
                System.arraycopy(entries.get(i), 0, home, 8 * (place + i), 8);
            }
            change.finish(steps);
            return (int) Trial.packed((made + "\0\0").substring(0, 3));
        });
    }

    private static int[] bytes(String text) {
        return Arrays.copyOf(text.chars().toArray(), 8);
    }

    private static int place(int[] directory, int wanted) {
        for (int place = 0; place + wanted <= 8; place++) {
            boolean free = true;
            for (int i = 0; i < wanted; i++) {
                free &= directory[8 * (place + i)] == 0;
            }
            if (free) {
                return place;
            }
        }
        throw new UnsupportedOperationException();
    }

    int remove() {
        List<Step> steps = steps(path(true));
        if (steps == null || last(steps).entry < 0) {
            return -1;
        }
        Step found = last(steps);
        List<Integer> gone = new ArrayList<>();
        if (found.finds(1)) {
            gone.addAll(chain(found));
        } else if (isCluster(found.get(4))) {
            for (int entry = 0; entry < 8; entry++) {
                if (clusters[found.get(4)][8 * entry] != 0) {
                    return -1;
                }
            }
            gone.add(found.get(4));
        }
        for (int entry : longEntries(found.bytes, found.entry)) {
            Arrays.fill(found.bytes, 8 * entry, 8 * entry + 8, 0);
        }
        Arrays.fill(found.bytes, 8 * found.entry, 8 * found.entry + 8, 0);
        return change(change -> {
            gone.forEach(change::free);
            change.finish(steps);
            return 1;
        });
    }

    int write(int at, long bytes, int n, int time) {
        List<Step> steps = steps(path(n >= 1 && n <= 8 && time >= 0 && time <= 255));
        if (steps == null || !last(steps).finds(1) || at < 0 || at > last(steps).get(5)) {
            return -1;
        }
        Step file = last(steps);
        int size = Math.max(file.get(5), at + n);
        if (size > 192) {
            throw new UnsupportedOperationException();
        }
        List<Integer> content = resized(bytesOf(file), size);
        for (int i = 0; i < n; i++) {
            content.set(at + n - 1 - i, (int) (bytes >> 8 * i & 0xff));
        }
        return rewrite(steps, content, time) ? size : -2;
    }

    int cut(int n) {
        List<Step> steps = steps(path(true));
        if (steps == null || !last(steps).finds(1) || n < 0 || n > last(steps).get(5)) {
            return -1;
        }
        Step file = last(steps);
        if (n > 192) {
            throw new UnsupportedOperationException();
        }
        int went = file.get(5) - n;
        return went == 0 || rewrite(steps, resized(bytesOf(file), n), file.get(7)) ? went : -2;
    }

    private static List<Integer> resized(List<Integer> bytes, int size) {
        List<Integer> content = new ArrayList<>(bytes.subList(0, Math.min(size, bytes.size())));
        while (content.size() < size) {
            content.add(0);
        }
        return content;
    }

    private boolean rewrite(List<Step> steps, List<Integer> content, int time) {
        Step file = last(steps);
        List<Integer> old = chain(file);
        return change(change -> {
            int first = change.takeChain(content);
            old.forEach(change::free);
            file.set(4, first);
            file.set(5, content.size());
            file.set(7, time);
            change.finish(steps);
            return 0;
        }) == 0;
    }

    int read(int k) {
        List<Step> steps = steps(path(true));
        if (steps == null || !last(steps).finds(1)) {
            return -1;
        }
        List<Integer> bytes = bytesOf(last(steps));
        return k >= 0 && k < bytes.size() ? bytes.get(k) : -1;
    }

    int look() {
        List<Step> steps = steps(path(true));
        if (steps == null || last(steps).entry < 0) {
            return -1;
        }
        Step found = last(steps);
        return found.get(5) | found.get(7) << 8 | (found.finds(2) ? 1 : 0) << 16 | found.get(4) << 17;
    }

    // The disk

    boolean fail(int n) {
        if (down || n < 0 || n > 40) {
            return false;
        }
        toldFailure = n;
        return true;
    }

    boolean spoil(int c) {
        return isCluster(c) && spoilt.add(c);
    }

    boolean mount() {
        boolean was = down;
        if (was) {
            toldFailure = 0;
        }
        down = false;
        return was;
    }

    private int[] row(int where, int k) {
        int[] row = where == 0 || where == 1 ? tables[where] : isCluster(where) ? clusters[where] : new int[0];
        return k >= 0 && k < row.length ? row : null;
    }

    boolean poke(int where, int k, int v) {
        if (row(where, k) == null || v < 0 || v > 255) {
            return false;
        }
        row(where, k)[k] = v;
        return true;
    }

    int peek(int where, int k) {
        if (where != -1) {
            return row(where, k) == null ? -1 : row(where, k)[k];
        }
        if (k < 0 || k > 4) {
            return -1;
        }
        int free = (int) Arrays.stream(tables[active]).skip(2).filter(b -> b == 0).count();
        int bad = (int) Arrays.stream(tables[active]).skip(2).filter(b -> b == 254).count();
        return new int[] {active, root, free, bad, down ? 1 : 0}[k];
    }

    /** As Volume shows it. */
    String disk() {
        StringBuilder text = new StringBuilder();
        for (int where = -1; where < 32; where++) {
            for (int k = 0; peek(where, k) >= 0; k++) {
                text.append(k == 0 ? "\n" : " ").append(peek(where, k));
            }
        }
        return text.toString();
    }

    // Repair

    int repair() {
        demandUp();
        String[] before = disk().trim().split("\\s+");
        Set<Integer> used = new TreeSet<>(List.of(root));
        tables[active][root] = 255;
        repairDirectory(root, 1, used);
        for (int c = 2; c <= 31; c++) {
            if (!used.contains(c) && tables[active][c] != 254) {
                tables[active][c] = 0;
            }
        }
        String[] after = disk().trim().split("\\s+");
        int others = 0;
        for (int i = 5; i < after.length; i++) {
            others += after[i].equals(before[i]) ? 0 : 1;
        }
        return others;
    }

    private boolean canBeUsed(int cluster, Set<Integer> used) {
        return isCluster(cluster) && tables[active][cluster] != 254 && !used.contains(cluster);
    }

    private void repairDirectory(int cluster, int deep, Set<Integer> used) {
        int[] d = clusters[cluster];
        List<Integer> waiting = new ArrayList<>();
        for (int entry = 0; entry < 8; entry++) {
            int kind = d[8 * entry];
            if (kind == 15) {
                waiting.add(entry);
                continue;
            }
            boolean right = kind == 1 || kind == 2 && deep < 5 && canBeUsed(d[8 * entry + 4], used);
            if (right) {
                waiting.removeAll(longEntries(d, entry));
            } else if (kind != 0) {
                waiting.add(entry);
            }
            waiting.forEach(e -> Arrays.fill(d, 8 * e, 8 * e + 8, 0));
            waiting.clear();
            if (right && kind == 1) {
                repairFile(d, entry, used);
            } else if (right) {
                int below = d[8 * entry + 4];
                used.add(below);
                tables[active][below] = 255;
                d[8 * entry + 5] = 0;
                repairDirectory(below, deep + 1, used);
            }
        }
        waiting.forEach(e -> Arrays.fill(d, 8 * e, 8 * e + 8, 0));
    }

    private void repairFile(int[] d, int entry, Set<Integer> used) {
        List<Integer> chain = new ArrayList<>();
        for (int c = d[8 * entry + 4]; chain.size() < 3 && canBeUsed(c, used); c = tables[active][c]) {
            chain.add(c);
            used.add(c);
        }
        int size = Math.min(d[8 * entry + 5], 64 * chain.size());
        d[8 * entry + 5] = size;
        while ((chain.size() - 1) * 64 >= size && !chain.isEmpty()) {
            used.remove(chain.remove(chain.size() - 1));
        }
        if (chain.isEmpty()) {
            d[8 * entry + 4] = 0;
        } else {
            tables[active][chain.get(chain.size() - 1)] = 255;
        }
    }
}
