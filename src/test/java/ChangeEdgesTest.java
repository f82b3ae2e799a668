import java.util.Arrays;

/** The edges that the terms name for a change, its writes, a failure and spoilt clusters. */
final class ChangeEdgesTest {
    /** Free clusters that a change may take, in this order. */
    private static final int[] FREE = {20, 22, 23, 27, 30, 31};

    private interface Act {
        int on(Volume v);
    }

    /** A change that takes some clusters and then answers. */
    private static final class Case {
        final String path;
        final int clusters;
        final int answer;
        final Act act;

        Case(String path, int clusters, int answer, Act act) {
            this.path = path;
            this.clusters = clusters;
            this.answer = answer;
            this.act = act;
        }
    }

    private static final Case[] CASES = {
        new Case("X", 1, Trial.name("X"), v -> v.make(false, 3)),
        new Case("X", 2, Trial.name("X"), v -> v.make(true, 3)),
        new Case("D/xyz", 2, Trial.name("X~1"), v -> v.make(false, 3)),
        new Case("D/E/X", 3, Trial.name("X"), v -> v.make(false, 3)),
        new Case("D/E/longername", 4, Trial.name("L~1"), v -> v.make(true, 3)),
        new Case("D/E/G/X", 5, Trial.name("X"), v -> v.make(true, 3)),
        new Case("H", 1, 1, v -> v.remove()),
        new Case("D/E/F", 3, 1, v -> v.remove()),
        new Case("D/E/G", 3, 1, v -> v.remove()),
        new Case("H", 2, 1, v -> v.write(0, 7L, 1, 3)),
        new Case("D/E/F", 6, 137, v -> v.write(130, 0x01020304050607L, 7, 3)),
        new Case("D/E/F", 6, 130, v -> v.write(0, -1L, 8, 3)),
        new Case("D/E/F", 6, 1, v -> v.cut(129)),
        new Case("D/E/F", 5, 2, v -> v.cut(128)),
        new Case("D/E/F", 4, 66, v -> v.cut(64)),
        new Case("D/E/F", 3, 130, v -> v.cut(0)),
    };

    public static void main(String[] args) {
        for (Case one : CASES) {
            refusedWithTooFewClusters(one);
            doneWithJustEnough(one);
            failsAtEachWrite(one);
            failsBeforeItIsRefused(one);
            refusedWithASpoiltCluster(one);
            doneBesideASpoiltCluster(one);
            failsAtASpoiltCluster(one);
        }
        bytesAreReadBeforeTheFirstWrite();
        directoriesAreReadBeforeTheFirstWrite();
        freeByTheActiveTableAlone();
        chainsAnewOfEachLength();
        zerosBehindOnEachCluster();
        bytesThatItDidNotHave();
        takenIsNeverMadeFree();
        everySpoiltClusterIsTriedOnce();
        Trial.end();
    }

    private static int[] free(int n) {
        return Arrays.copyOf(FREE, n);
    }

    private static int[] with(int[] clusters, int table) {
        int[] more = Arrays.copyOf(clusters, clusters.length + 1);
        more[clusters.length] = table;
        return more;
    }

    /** D/E with the file F of 130 bytes and the directory G, and the file H without bytes. */
    private static Volume start(String path, int... free) {
        Volume v = new Volume();
        Trial.at(v, "D").make(true, 1);
        Trial.at(v, "D/E").make(true, 1);
        Trial.at(v, "D/E/G").make(true, 1);
        Trial.at(v, "H").make(false, 1);
        Trial.at(v, "D/E/F").make(false, 1);
        Trial.fill(v, 130);
        Trial.leaveFree(v, free);
        for (int c : FREE) {
            v.poke(c, 1, 77);
            v.poke(c, 63, 78);
        }
        return Trial.at(v, path);
    }

    /** The line of a disk's text for a table or a cluster; -1 is the boot record. */
    private static String line(String disk, int where) {
        return disk.split("\n")[where + 2];
    }

    /** All is as before but what was written, which is as behind the whole change. */
    private static void writtenAlone(String before, String now, String whole, int[] written) {
        for (int where = 0; where < 32; where++) {
            boolean changed = false;
            for (int place : written) {
                changed |= place == where;
            }
            String due = line(changed ? whole : before, where);
            int place = where;
            Trial.due(due, () -> line(now, place));
        }
    }

    private static String wholeChange(Case one) {
        Volume v = start(one.path, FREE);
        one.act.on(v);
        return v.disk();
    }

    private static void refusedWithTooFewClusters(Case one) {
        String whole = wholeChange(one);
        for (int n = 0; n < one.clusters; n++) {
            Volume v = start(one.path, free(n));
            String before = v.disk();
            Trial.due(Trial.UNSUPPORTED, () -> one.act.on(v));
            String now = v.disk();
            Trial.due(line(before, -1), () -> line(now, -1));
            writtenAlone(before, now, whole, free(n));
            Trial.due(false, () -> v.mount());
        }
    }

    private static void doneWithJustEnough(Case one) {
        Volume v = start(one.path, free(one.clusters));
        int active = v.peek(-1, 0);
        String before = v.disk();
        Trial.due(one.answer, () -> one.act.on(v));
        String now = v.disk();
        Trial.due(FREE[one.clusters - 1], () -> v.peek(-1, 1));
        Trial.due(1 - active, () -> v.peek(-1, 0));
        Trial.due(line(before, active), () -> line(now, active));
        for (int i = 0; i < one.clusters; i++) {
            int c = FREE[i];
            Trial.due(false, () -> line(before, c).equals(line(now, c)));
        }
    }

    private static void failsAtEachWrite(Case one) {
        String whole = wholeChange(one);
        int last = one.clusters + 2;
        for (int n = 1; n <= last; n++) {
            Volume v = start(one.path, FREE);
            int active = v.peek(-1, 0);
            int root = v.peek(-1, 1);
            String before = v.disk();
            v.fail(n);
            Trial.due(-2, () -> one.act.on(v));
            String now = v.disk();
            int[] written = free(Math.min(n - 1, one.clusters));
            writtenAlone(before, now, whole, n == last ? with(written, 1 - active) : written);
            Trial.due(active + " " + root + " 6 0 1", () -> Trial.bytes(v, -1, 0, 5));
            Trial.due(Trial.STATE, () -> one.act.on(v));
            Trial.due(true, () -> v.mount());
            Trial.due(one.answer, () -> one.act.on(v));
        }
        Volume v = start(one.path, FREE);
        v.fail(last + 1);
        Trial.due(one.answer, () -> one.act.on(v));
        Trial.due(whole, () -> v.disk());
        Trial.due(-2, () -> Trial.at(v, "N").make(false, 0));
    }

    private static void failsBeforeItIsRefused(Case one) {
        for (int n = 0; n < one.clusters; n++) {
            Volume refused = start(one.path, free(n));
            refused.fail(n + 1);
            Trial.due(Trial.UNSUPPORTED, () -> one.act.on(refused));
            refused.poke(refused.peek(-1, 0), 31, 0);
            Trial.due(-2, () -> Trial.at(refused, "N").make(false, 0));
            if (n > 0) {
                Volume down = start(one.path, free(n));
                down.fail(n);
                Trial.due(-2, () -> one.act.on(down));
            }
        }
    }

    private static void refusedWithASpoiltCluster(Case one) {
        for (int spoilt = 0; spoilt < one.clusters; spoilt++) {
            Volume v = start(one.path, free(one.clusters));
            v.spoil(FREE[spoilt]);
            String before = v.disk();
            v.fail(one.clusters + 1);
            Trial.due(Trial.UNSUPPORTED, () -> one.act.on(v));
            String now = v.disk();
            for (int where : new int[] {-1, 0, 1, FREE[spoilt]}) {
                Trial.due(line(before, where), () -> line(now, where));
            }
            v.poke(v.peek(-1, 0), 3, 0);
            Trial.due(-2, () -> Trial.at(v, "N").make(false, 0));
        }
    }

    private static void doneBesideASpoiltCluster(Case one) {
        if (one.clusters == FREE.length) {
            return;
        }
        for (int spoilt = 0; spoilt <= one.clusters; spoilt++) {
            Volume v = start(one.path, FREE);
            v.spoil(FREE[spoilt]);
            String before = v.disk();
            boolean tried = spoilt < one.clusters;
            v.fail(one.clusters + (tried ? 4 : 3));
            Trial.due(one.answer, () -> one.act.on(v));
            String now = v.disk();
            Trial.due(tried ? 1 : 0, () -> v.peek(-1, 3));
            int bad = FREE[spoilt];
            Trial.due(tried ? 254 : 0, () -> v.peek(v.peek(-1, 0), bad));
            Trial.due(line(before, bad), () -> line(now, bad));
            Trial.due(FREE[one.clusters - (tried ? 0 : 1)], () -> v.peek(-1, 1));
            Trial.due(-2, () -> Trial.at(v, "N").make(false, 0));
        }
    }

    private static void failsAtASpoiltCluster(Case one) {
        for (int spoilt = 0; spoilt < one.clusters; spoilt++) {
            Volume v = start(one.path, FREE);
            v.spoil(FREE[spoilt]);
            v.fail(spoilt + 1);
            Trial.due(-2, () -> one.act.on(v));
            v.mount();
            Trial.due(0, () -> v.peek(-1, 3));
            int bad = FREE[spoilt];
            Trial.due(0, () -> v.peek(v.peek(-1, 0), bad));
        }
    }

    /** The table is damaged so that what is read is taken, the second cluster first. */
    private static void bytesAreReadBeforeTheFirstWrite() {
        Volume v = Trial.at(new Volume(), "F");
        Trial.putEntry(v, 2, 0, 1, 'F', 0, 0, 10, 128, 0, 0);
        Trial.leaveFree(v, 9, 11, 12);
        v.poke(0, 10, 9);
        Trial.put(v, 10, 0, 1, 2);
        Trial.put(v, 9, 0, 3, 4);
        Trial.due(128, () -> v.write(0, 8L, 1, 1));
        Trial.due(9, () -> v.look() >> 17);
        Trial.due("8 2", () -> v.read(0) + " " + v.read(1));
        Trial.due("3 4", () -> v.read(64) + " " + v.read(65));
        Trial.due("11 0 255 255", () -> Trial.bytes(v, 1, 9, 4));
    }

    private static void directoriesAreReadBeforeTheFirstWrite() {
        Volume v = Trial.at(new Volume(), "D/F");
        Trial.putEntry(v, 2, 0, 2, 'D', 0, 0, 3, 0, 0, 0);
        Trial.putEntry(v, 3, 0, 1, 'F', 0, 0, 0, 0, 0, 5);
        Trial.putEntry(v, 3, 7, 1, 'G', 0, 0, 0, 0, 0, 6);
        Trial.leaveFree(v, 2, 3, 4);
        Trial.due(1, () -> v.write(0, 9L, 1, 7));
        Trial.due("1 4 0 0 0", () -> Trial.bytes(v, -1, 0, 5));
        Trial.due(1 + 7 * 256 + 2 * 131072, () -> v.look());
        Trial.due(9, () -> v.read(0));
        Trial.due(6 * 256, () -> Trial.at(v, "D/G").look());
        Trial.due(65536 + 3 * 131072, () -> Trial.at(v, "D").look());
    }

    /** A cluster that this change makes free is not taken by it. */
    private static void freeByTheActiveTableAlone() {
        Volume v = Trial.withFile("F");
        Trial.fill(v, 192);
        int root = v.peek(-1, 1);
        int first = v.look() >> 17;
        Trial.leaveFree(v);
        v.poke(1 - v.peek(-1, 0), 30, 0);
        Trial.due(Trial.UNSUPPORTED, () -> v.remove());
        Trial.due(Trial.UNSUPPORTED, () -> v.cut(0));
        Trial.due(Trial.UNSUPPORTED, () -> v.cut(64));
        Trial.due(root, () -> v.peek(-1, 1));
        Trial.due(first, () -> v.look() >> 17);
        Trial.due(192, () -> v.read(191));
    }

    private static void chainsAnewOfEachLength() {
        for (int size : new int[] {1, 63, 64, 65, 127, 128, 129, 191, 192}) {
            Volume v = Trial.withFile("F");
            Trial.fill(v, size);
            int active = v.peek(-1, 0);
            int links = (size + 63) / 64;
            Trial.due(29 - links, () -> v.peek(-1, 2));
            int cluster = v.look() >> 17;
            for (int i = 1; i <= links; i++) {
                int here = cluster;
                int lastByte = Math.min(size, 64 * i);
                Trial.due(lastByte, () -> v.peek(here, (lastByte - 1) % 64));
                cluster = v.peek(active, cluster);
            }
            int end = cluster;
            Trial.due(255, () -> end);
            Trial.due(0, () -> v.repair());
        }
    }

    private static void zerosBehindOnEachCluster() {
        for (int n : new int[] {1, 63, 64, 65, 127, 128, 129}) {
            Volume v = Trial.withFile("F");
            Trial.fill(v, 192);
            Trial.due(192 - n, () -> v.cut(n));
            int cluster = v.look() >> 17;
            int lastCluster = cluster;
            for (int i = 64; i < n; i += 64) {
                lastCluster = v.peek(v.peek(-1, 0), lastCluster);
            }
            int behind = lastCluster;
            for (int k = (n - 1) % 64 + 1; k < 64; k++) {
                int at = k;
                Trial.due(0, () -> v.peek(behind, at));
            }
            Trial.due(n, () -> v.peek(behind, (n - 1) % 64));
        }
    }

    private static void bytesThatItDidNotHave() {
        for (int links = 0; links <= 3; links++) {
            for (int at : new int[] {0, 64, 100, 180}) {
                Volume v = Trial.at(new Volume(), "F");
                Trial.putEntry(v, 2, 0, 1, 'F', 0, 0, links == 0 ? 0 : 20, 180, 0, 0);
                int[] table = {21, 22, 23, 0};
                table[links == 0 ? 3 : links - 1] = 255;
                Trial.put(v, 0, 20, table);
                for (int c = 20; c < 23; c++) {
                    Trial.put(v, c, 0, c, c);
                    v.poke(c, 63, c);
                }
                int had = 64 * links;
                Trial.due(at == 180 ? 181 : 180, () -> v.write(at, 99L, 1, 1));
                for (int k : new int[] {0, 1, 63, 64, 65, 100, 127, 128, 129, 179}) {
                    int whole = k % 64 < 2 || k % 64 == 63 ? 20 + k / 64 : 0;
                    Trial.due(k == at ? 99 : k < had ? whole : 0, () -> v.read(k));
                }
                Trial.due(at == 180 ? 99 : -1, () -> v.read(180));
            }
        }
    }

    /** By a damaged table the old chain, the directory and the root are free: all are taken anew. */
    private static void takenIsNeverMadeFree() {
        Volume v = Trial.at(new Volume(), "D/F");
        Trial.putEntry(v, 2, 0, 2, 'D', 0, 0, 3, 0, 0, 0);
        Trial.putEntry(v, 3, 0, 1, 'F', 0, 0, 4, 64, 0, 5);
        Trial.leaveFree(v, 2, 3, 4);
        v.poke(4, 0, 50);
        Trial.due(64, () -> v.write(1, 51L, 1, 6));
        Trial.due("255 255 255", () -> Trial.bytes(v, 1, 2, 3));
        Trial.due("1 4 0 0 0", () -> Trial.bytes(v, -1, 0, 5));
        Trial.due("50 51", () -> v.read(0) + " " + v.read(1));
        Trial.due(27, () -> v.repair());
    }

    private static void everySpoiltClusterIsTriedOnce() {
        Volume v = Trial.at(new Volume(), "D");
        for (int c = 3; c < 30; c++) {
            v.spoil(c);
        }
        v.fail(32);
        Trial.due(Trial.name("D"), () -> v.make(true, 0));
        Trial.due("1 31 1 27 0", () -> Trial.bytes(v, -1, 0, 5));
        Trial.due("2 68 0 0 30 0 0 0", () -> Trial.entry(v, 31, 0));
        Trial.due("0 254", () -> Trial.bytes(v, 1, 2, 2));
        Trial.due("254 255 255", () -> Trial.bytes(v, 1, 29, 3));
        Trial.due(-2, () -> v.remove());
    }
}
