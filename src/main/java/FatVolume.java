/**
 * A volume of files and directories with long names on a small disk. Every change is written beside
 * what is there and comes into force by the write of the boot record.
 */
public final class FatVolume {
    private static final int CLUSTERS = 32;
    private static final int FIRST_CLUSTER = 2;
    private static final int CLUSTER_BYTES = 64;
    private static final int TABLE_BYTES = 32;

    private static final int FREE = 0;
    private static final int BAD = 254;
    private static final int LAST = 255;

    private static final int SLOTS = 8;
    private static final int ENTRY_BYTES = 8;
    private static final int KIND = 0;
    private static final int NAME = 1;
    private static final int FIRST = 4;
    private static final int SIZE = 5;
    private static final int TIME = 7;
    private static final int ORDER = 1;
    private static final int SUM = 2;
    private static final int PART = 3;

    private static final int NO_ENTRY = 0;
    private static final int FILE = 1;
    private static final int DIRECTORY = 2;
    private static final int LONG = 15;
    private static final int LAST_PART = 64;

    private static final int SHORT_CHARS = 3;
    private static final int PART_CHARS = 5;
    private static final int NAME_CHARS = 10;
    private static final int PATH_NAMES = 4;
    private static final int BUFFER_CHARS = 40;

    private static final int FILE_CLUSTERS = 3;
    private static final int FILE_BYTES = 192;
    /** A damaged size byte can tell up to 255 bytes, which need four clusters. */
    private static final int TOLD_CLUSTERS = 4;
    private static final int FARTHEST_WRITE = 40;

    private static final int NOT_THERE = -1;
    private static final int WENT_DOWN = -2;
    private static final int REFUSED = -3;

    private final Disk disk;
    private final Buffer buffer;
    private final Route route;
    private final FileBytes file;
    private final ShortName shortName;
    private final Change change;
    private final Repairer repairer;

    public FatVolume() {
        disk = new Disk();
        buffer = new Buffer();
        route = new Route(disk, buffer);
        file = new FileBytes(disk);
        shortName = new ShortName();
        change = new Change(disk, route);
        repairer = new Repairer(disk);
    }

    public boolean type(long eight) {
        return buffer.append(eight);
    }

    public void wipe() {
        buffer.clear();
    }

    public int make(boolean directory, int time)
            throws IllegalStateException, IllegalArgumentException, UnsupportedOperationException {
        demandPath(isByte(time));
        if (!route.reach() || route.finds()) {
            return NOT_THERE;
        }
        int parts = buffer.longParts(route.lastName());
        int place = route.last().room(parts + 1);
        if (place < 0 || !shortName.choose(buffer, route.lastName(), route.last())) {
            throw new UnsupportedOperationException();
        }
        return settled(addEntry(directory, time, place, parts), shortName.asNumber());
    }

    public int remove()
            throws IllegalStateException, IllegalArgumentException, UnsupportedOperationException {
        demandPath(true);
        if (!route.reach() || !route.finds() || findsFullDirectory()) {
            return NOT_THERE;
        }
        return settled(dropEntry(), 1);
    }

    public int write(int at, long bytes, int n, int time)
            throws IllegalStateException, IllegalArgumentException, UnsupportedOperationException {
        demandPath(n >= 1 && n <= 8 && isByte(time));
        if (!route.reach() || !route.findsKind(FILE)) {
            return NOT_THERE;
        }
        int size = route.found(SIZE);
        if (at < 0 || at > size) {
            return NOT_THERE;
        }
        int grown = Math.max(size, at + n);
        if (grown > FILE_BYTES) {
            throw new UnsupportedOperationException();
        }
        file.load(route.found(FIRST), size);
        file.put(at, bytes, n);
        route.setFound(TIME, time);
        return settled(storeFile(grown), grown);
    }

    public int cut(int n)
            throws IllegalStateException, IllegalArgumentException, UnsupportedOperationException {
        demandPath(true);
        if (!route.reach() || !route.findsKind(FILE)) {
            return NOT_THERE;
        }
        int size = route.found(SIZE);
        if (n < 0 || n > size) {
            return NOT_THERE;
        }
        if (n > FILE_BYTES) {
            throw new UnsupportedOperationException();
        }
        if (n == size) {
            return 0;
        }
        file.load(route.found(FIRST), size);
        file.clearFrom(n);
        return settled(storeFile(n), size - n);
    }

    public int read(int k) throws IllegalStateException, IllegalArgumentException {
        demandPath(true);
        if (!route.reach() || !route.findsKind(FILE)) {
            return NOT_THERE;
        }
        file.load(route.found(FIRST), route.found(SIZE));
        return file.has(k) ? file.get(k) : NOT_THERE;
    }

    public int look() throws IllegalStateException, IllegalArgumentException {
        demandPath(true);
        if (!route.reach() || !route.finds()) {
            return NOT_THERE;
        }
        int kind = route.findsKind(DIRECTORY) ? 65536 : 0;
        return route.found(SIZE) + 256 * route.found(TIME) + kind + 131072 * route.found(FIRST);
    }

    public boolean fail(int n) {
        if (disk.isDown() || n < 0 || n > FARTHEST_WRITE) {
            return false;
        }
        disk.tellFailure(n);
        return true;
    }

    public boolean spoil(int c) {
        if (!isCluster(c) || disk.isSpoilt(c)) {
            return false;
        }
        disk.setSpoilt(c);
        return true;
    }

    public boolean mount() {
        if (!disk.isDown()) {
            return false;
        }
        disk.comeUp();
        return true;
    }

    public boolean poke(int where, int k, int v) {
        if (!isByte(v)) {
            return false;
        }
        if (isTablePlace(where, k)) {
            disk.setTableByte(where, k, v);
            return true;
        }
        if (isClusterPlace(where, k)) {
            disk.setClusterByte(where, k, v);
            return true;
        }
        return false;
    }

    public int peek(int where, int k) {
        if (where == -1) {
            return aboutDisk(k);
        }
        if (isTablePlace(where, k)) {
            return disk.tableByte(where, k);
        }
        return isClusterPlace(where, k) ? disk.clusterByte(where, k) : NOT_THERE;
    }

    public int repair() throws IllegalStateException {
        demandUp();
        return repairer.run();
    }

    private void demandUp() {
        if (disk.isDown()) {
            throw new IllegalStateException();
        }
    }

    private void demandPath(boolean othersRight) {
        demandUp();
        if (!othersRight || !buffer.split()) {
            throw new IllegalArgumentException();
        }
    }

    private int settled(int outcome, int answer) {
        if (outcome == REFUSED) {
            throw new UnsupportedOperationException();
        }
        return outcome == WENT_DOWN ? WENT_DOWN : answer;
    }

    private int addEntry(boolean directory, int time, int place, int parts) {
        change.begin();
        int first = directory ? change.takeEmpty() : 0;
        if (first < 0) {
            return first;
        }
        Folder folder = route.last();
        int sum = shortName.sum();
        for (int part = parts; part >= 1; part--) {
            int order = part == parts ? part + LAST_PART : part;
            folder.putLong(place + parts - part, order, sum);
            buffer.copyPart(route.lastName(), part, folder, place + parts - part);
        }
        folder.putEntry(place + parts, directory ? DIRECTORY : FILE, first, time);
        shortName.copyTo(folder, place + parts);
        return change.commit();
    }

    private int dropEntry() {
        Folder folder = route.last();
        int slot = folder.slot();
        change.begin();
        if (route.findsKind(FILE)) {
            file.load(route.found(FIRST), route.found(SIZE));
            change.releaseChain(file);
        } else {
            change.release(route.found(FIRST));
        }
        folder.clearSlots(slot - folder.longParts(slot), slot + 1);
        return change.commit();
    }

    private int storeFile(int size) {
        change.begin();
        change.releaseChain(file);
        int first = change.takeChain(file, size);
        if (first < 0) {
            return first;
        }
        route.setFound(FIRST, first);
        route.setFound(SIZE, size);
        return change.commit();
    }

    private boolean findsFullDirectory() {
        return route.findsKind(DIRECTORY) && disk.hasEntries(route.found(FIRST));
    }

    private int aboutDisk(int k) {
        switch (k) {
            case 0:
                return disk.active();
            case 1:
                return disk.root();
            case 2:
                return disk.count(FREE);
            case 3:
                return disk.count(BAD);
            case 4:
                return disk.isDown() ? 1 : 0;
            default:
                return NOT_THERE;
        }
    }

    private static boolean isByte(int v) {
        return v >= 0 && v <= 255;
    }

    private static boolean isCluster(int c) {
        return c >= FIRST_CLUSTER && c < CLUSTERS;
    }

    private static boolean isTablePlace(int where, int k) {
        return (where == 0 || where == 1) && k >= 0 && k < TABLE_BYTES;
    }

    private static boolean isClusterPlace(int where, int k) {
        return isCluster(where) && k >= 0 && k < CLUSTER_BYTES;
    }

    private static boolean isDigit(int c) {
        return c >= '0' && c <= '9';
    }

    private static int asCapital(int c) {
        return c >= 'a' && c <= 'z' ? c - 'a' + 'A' : c;
    }

    private static boolean isLetter(int c) {
        int capital = asCapital(c);
        return capital >= 'A' && capital <= 'Z';
    }

    private static int sumOf(int first, int second, int third) {
        return (4 * first + 2 * second + third) & 255;
    }

    /** The bytes on the disk, its boot record, and what befalls a write. */
    private static final class Disk {
        private final int[] cells = new int[CLUSTERS * CLUSTER_BYTES];
        private final int[] tables = new int[2 * TABLE_BYTES];
        private final boolean[] spoilt = new boolean[CLUSTERS];
        private int active;
        private int root;
        private int writesToFailure;
        private boolean down;

        Disk() {
            root = FIRST_CLUSTER;
            tables[FIRST_CLUSTER] = LAST;
        }

        int active() {
            return active;
        }

        int root() {
            return root;
        }

        boolean isDown() {
            return down;
        }

        void comeUp() {
            down = false;
            writesToFailure = 0;
        }

        void tellFailure(int writes) {
            writesToFailure = writes;
        }

        /** Counts a write that is about to be done; true when the failure comes in its place. */
        boolean failsNow() {
            if (writesToFailure == 0) {
                return false;
            }
            writesToFailure--;
            down = writesToFailure == 0;
            return down;
        }

        boolean isSpoilt(int cluster) {
            return spoilt[cluster];
        }

        void setSpoilt(int cluster) {
            spoilt[cluster] = true;
        }

        int tableByte(int table, int k) {
            return tables[TABLE_BYTES * table + k];
        }

        void setTableByte(int table, int k, int v) {
            tables[TABLE_BYTES * table + k] = v;
        }

        int clusterByte(int cluster, int k) {
            return cells[CLUSTER_BYTES * cluster + k];
        }

        void setClusterByte(int cluster, int k, int v) {
            cells[CLUSTER_BYTES * cluster + k] = v;
        }

        int state(int cluster) {
            return tables[TABLE_BYTES * active + cluster];
        }

        void setState(int cluster, int v) {
            tables[TABLE_BYTES * active + cluster] = v;
        }

        int count(int state) {
            int found = 0;
            for (int c = FIRST_CLUSTER; c < CLUSTERS; c++) {
                if (state(c) == state) {
                    found++;
                }
            }
            return found;
        }

        /** A directory that can't be gone into has no entries. */
        boolean hasEntries(int cluster) {
            if (!isCluster(cluster)) {
                return false;
            }
            for (int slot = 0; slot < SLOTS; slot++) {
                if (clusterByte(cluster, ENTRY_BYTES * slot + KIND) != NO_ENTRY) {
                    return true;
                }
            }
            return false;
        }

        void loadCluster(int cluster, int[] into, int at) {
            System.arraycopy(cells, CLUSTER_BYTES * cluster, into, at, CLUSTER_BYTES);
        }

        void storeCluster(int cluster, int[] from, int at) {
            System.arraycopy(from, at, cells, CLUSTER_BYTES * cluster, CLUSTER_BYTES);
        }

        void loadActiveTable(int[] into) {
            System.arraycopy(tables, TABLE_BYTES * active, into, 0, TABLE_BYTES);
        }

        void storeOtherTable(int[] from) {
            System.arraycopy(from, 0, tables, TABLE_BYTES * (1 - active), TABLE_BYTES);
        }

        void storeBoot(int newRoot) {
            active = 1 - active;
            root = newRoot;
        }

        void copyAll(int[] into) {
            System.arraycopy(cells, 0, into, 0, cells.length);
            System.arraycopy(tables, 0, into, cells.length, tables.length);
        }

        int countOthers(int[] before) {
            int others = 0;
            for (int i = 0; i < cells.length; i++) {
                if (cells[i] != before[i]) {
                    others++;
                }
            }
            for (int i = 0; i < tables.length; i++) {
                if (tables[i] != before[cells.length + i]) {
                    others++;
                }
            }
            return others;
        }
    }

    /** The typed characters, and the names of the path that they are. */
    private static final class Buffer {
        private final int[] chars = new int[BUFFER_CHARS];
        private final int[] starts = new int[PATH_NAMES];
        private final int[] lengths = new int[PATH_NAMES];
        private int count;
        private int names;

        void clear() {
            count = 0;
        }

        boolean append(long eight) {
            int more = 0;
            for (int shift = 56; shift >= 0; shift -= 8) {
                int c = (int) (eight >>> shift) & 255;
                if (c != 0 && (c < 33 || c > 126)) {
                    return false;
                }
                more += c == 0 ? 0 : 1;
            }
            if (count + more > BUFFER_CHARS) {
                return false;
            }
            for (int shift = 56; shift >= 0; shift -= 8) {
                int c = (int) (eight >>> shift) & 255;
                if (c != 0) {
                    chars[count] = c;
                    count++;
                }
            }
            return true;
        }

        /** Finds the names; false when the characters are no path. */
        boolean split() {
            names = 0;
            int start = 0;
            for (int i = 0; i <= count; i++) {
                if (i == count || chars[i] == '/') {
                    int length = i - start;
                    if (length < 1 || length > NAME_CHARS || names == PATH_NAMES) {
                        return false;
                    }
                    starts[names] = start;
                    lengths[names] = length;
                    names++;
                    start = i + 1;
                }
            }
            return true;
        }

        int names() {
            return names;
        }

        int length(int name) {
            return lengths[name];
        }

        int charAt(int name, int i) {
            return chars[starts[name] + i];
        }

        boolean isAlike(int name, int i, int c) {
            return asCapital(charAt(name, i)) == asCapital(c);
        }

        boolean isOwnShort(int name) {
            if (length(name) > SHORT_CHARS) {
                return false;
            }
            for (int i = 0; i < length(name); i++) {
                int c = charAt(name, i);
                if (!isDigit(c) && !(c >= 'A' && c <= 'Z')) {
                    return false;
                }
            }
            return true;
        }

        int longParts(int name) {
            if (isOwnShort(name)) {
                return 0;
            }
            return length(name) > PART_CHARS ? 2 : 1;
        }

        int leading(int name) {
            for (int i = 0; i < length(name); i++) {
                int c = charAt(name, i);
                if (isLetter(c) || isDigit(c)) {
                    return asCapital(c);
                }
            }
            return '_';
        }

        void copyPart(int name, int part, Folder folder, int slot) {
            int from = PART_CHARS * (part - 1);
            for (int i = 0; i < PART_CHARS && from + i < length(name); i++) {
                folder.set(slot, PART + i, charAt(name, from + i));
            }
        }
    }

    /** The short name of an entry that is made. */
    private static final class ShortName {
        private final int[] chars = new int[SHORT_CHARS];

        /** False when every short name that could be given is there. */
        boolean choose(Buffer buffer, int name, Folder folder) {
            if (buffer.isOwnShort(name)) {
                for (int i = 0; i < SHORT_CHARS; i++) {
                    chars[i] = i < buffer.length(name) ? buffer.charAt(name, i) : 0;
                }
                return true;
            }
            chars[0] = buffer.leading(name);
            chars[1] = '~';
            for (int digit = '1'; digit <= '9'; digit++) {
                chars[2] = digit;
                if (!folder.hasShort(chars)) {
                    return true;
                }
            }
            return false;
        }

        int asNumber() {
            return 65536 * chars[0] + 256 * chars[1] + chars[2];
        }

        int sum() {
            return sumOf(chars[0], chars[1], chars[2]);
        }

        void copyTo(Folder folder, int slot) {
            for (int i = 0; i < SHORT_CHARS; i++) {
                folder.set(slot, NAME + i, chars[i]);
            }
        }
    }

    /** A copy of a directory's cluster, to be read and changed away from the disk. */
    private static final class Folder {
        private final int[] bytes = new int[CLUSTER_BYTES];
        private int home;
        private int slot;

        void load(Disk disk, int cluster) {
            disk.loadCluster(cluster, bytes, 0);
            home = cluster;
        }

        int[] bytes() {
            return bytes;
        }

        int home() {
            return home;
        }

        /** The entry that the path goes through or finds, -1 for none. */
        int slot() {
            return slot;
        }

        void choose(int chosen) {
            slot = chosen;
        }

        int get(int entry, int k) {
            return bytes[ENTRY_BYTES * entry + k];
        }

        void set(int entry, int k, int v) {
            bytes[ENTRY_BYTES * entry + k] = v;
        }

        void clearSlots(int from, int to) {
            for (int i = ENTRY_BYTES * from; i < ENTRY_BYTES * to; i++) {
                bytes[i] = 0;
            }
        }

        void putEntry(int entry, int kind, int first, int time) {
            clearSlots(entry, entry + 1);
            set(entry, KIND, kind);
            set(entry, FIRST, first);
            set(entry, TIME, time);
        }

        void putLong(int entry, int order, int sum) {
            clearSlots(entry, entry + 1);
            set(entry, KIND, LONG);
            set(entry, ORDER, order);
            set(entry, SUM, sum);
        }

        boolean isNamed(int entry) {
            return get(entry, KIND) == FILE || get(entry, KIND) == DIRECTORY;
        }

        /** The first of so many free entries side by side, -1 when there are none. */
        int room(int wanted) {
            int free = 0;
            for (int entry = 0; entry < SLOTS; entry++) {
                free = get(entry, KIND) == NO_ENTRY ? free + 1 : 0;
                if (free == wanted) {
                    return entry - wanted + 1;
                }
            }
            return -1;
        }

        int find(Buffer buffer, int name) {
            for (int entry = 0; entry < SLOTS; entry++) {
                if (isNamed(entry) && (isShort(entry, buffer, name) || isLong(entry, buffer, name))) {
                    return entry;
                }
            }
            return -1;
        }

        /** Looks for a short name of three characters. */
        boolean hasShort(int[] chars) {
            for (int entry = 0; entry < SLOTS; entry++) {
                boolean same = isNamed(entry);
                for (int i = 0; i < SHORT_CHARS; i++) {
                    same = same && asCapital(get(entry, NAME + i)) == asCapital(chars[i]);
                }
                if (same) {
                    return true;
                }
            }
            return false;
        }

        /** How many long entries right before it give an entry its long name. */
        int longParts(int entry) {
            int sum = sum(entry);
            if (isPart(entry - 1, 1 + LAST_PART, sum)) {
                return 1;
            }
            return isPart(entry - 1, 1, sum) && isPart(entry - 2, 2 + LAST_PART, sum) ? 2 : 0;
        }

        private boolean isPart(int entry, int order, int sum) {
            return entry >= 0 && get(entry, KIND) == LONG
                    && get(entry, ORDER) == order && get(entry, SUM) == sum;
        }

        private int shortLength(int entry) {
            int length = 0;
            while (length < SHORT_CHARS && get(entry, NAME + length) != 0) {
                length++;
            }
            return length;
        }

        /** What stands behind a zero is no part of the short name. */
        private int sum(int entry) {
            int first = get(entry, NAME);
            int second = first == 0 ? 0 : get(entry, NAME + 1);
            int third = second == 0 ? 0 : get(entry, NAME + 2);
            return sumOf(first, second, third);
        }

        private boolean isShort(int entry, Buffer buffer, int name) {
            int length = shortLength(entry);
            if (length != buffer.length(name)) {
                return false;
            }
            for (int i = 0; i < length; i++) {
                if (!buffer.isAlike(name, i, get(entry, NAME + i))) {
                    return false;
                }
            }
            return true;
        }

        private boolean isLong(int entry, Buffer buffer, int name) {
            int parts = longParts(entry);
            int at = 0;
            for (int part = 1; part <= parts; part++) {
                for (int k = PART; k < ENTRY_BYTES && get(entry - part, k) != 0; k++) {
                    if (at == buffer.length(name) || !buffer.isAlike(name, at, get(entry - part, k))) {
                        return false;
                    }
                    at++;
                }
            }
            return at == buffer.length(name);
        }
    }

    /** The directories that a path goes through, from the root on, and what it finds in the last one. */
    private static final class Route {
        private final Disk disk;
        private final Buffer buffer;
        private final Folder[] folders = new Folder[PATH_NAMES];
        private int lastName;

        Route(Disk disk, Buffer buffer) {
            this.disk = disk;
            this.buffer = buffer;
            for (int i = 0; i < PATH_NAMES; i++) {
                folders[i] = new Folder();
            }
        }

        /** Reads the directories of the path; false when one of them is not there. */
        boolean reach() {
            int cluster = disk.root();
            lastName = buffer.names() - 1;
            for (int name = 0; name <= lastName; name++) {
                if (!isCluster(cluster)) {
                    return false;
                }
                Folder folder = folders[name];
                folder.load(disk, cluster);
                folder.choose(folder.find(buffer, name));
                if (name < lastName) {
                    cluster = clusterBelow(folder);
                }
            }
            return true;
        }

        private static int clusterBelow(Folder folder) {
            int slot = folder.slot();
            return slot >= 0 && folder.get(slot, KIND) == DIRECTORY ? folder.get(slot, FIRST) : 0;
        }

        int lastName() {
            return lastName;
        }

        Folder folder(int level) {
            return folders[level];
        }

        Folder last() {
            return folders[lastName];
        }

        boolean finds() {
            return last().slot() >= 0;
        }

        boolean findsKind(int kind) {
            return finds() && found(KIND) == kind;
        }

        int found(int k) {
            return last().get(last().slot(), k);
        }

        void setFound(int k, int v) {
            last().set(last().slot(), k, v);
        }
    }

    /** A file's chain and its bytes, with zeros behind. */
    private static final class FileBytes {
        private final Disk disk;
        private final int[] bytes = new int[TOLD_CLUSTERS * CLUSTER_BYTES];
        private final int[] chain = new int[TOLD_CLUSTERS];
        private int links;
        private int count;

        FileBytes(Disk disk) {
            this.disk = disk;
        }

        void load(int first, int size) {
            links = 0;
            int cluster = first;
            while (links < TOLD_CLUSTERS && CLUSTER_BYTES * links < size && isCluster(cluster)) {
                disk.loadCluster(cluster, bytes, CLUSTER_BYTES * links);
                chain[links] = cluster;
                links++;
                cluster = disk.state(cluster);
            }
            count = Math.min(size, CLUSTER_BYTES * links);
            clearFrom(count);
        }

        int[] bytes() {
            return bytes;
        }

        int links() {
            return links;
        }

        int link(int i) {
            return chain[i];
        }

        boolean has(int k) {
            return k >= 0 && k < count;
        }

        int get(int k) {
            return bytes[k];
        }

        void put(int at, long eight, int n) {
            for (int i = 0; i < n; i++) {
                bytes[at + i] = (int) (eight >>> (8 * (n - 1 - i))) & 255;
            }
        }

        void clearFrom(int k) {
            for (int i = k; i < bytes.length; i++) {
                bytes[i] = 0;
            }
        }
    }

    /** A change that is being written beside what is there. */
    private static final class Change {
        private final Disk disk;
        private final Route route;
        private final int[] table = new int[TABLE_BYTES];
        private final boolean[] taken = new boolean[CLUSTERS];
        private final int[] empty = new int[CLUSTER_BYTES];

        Change(Disk disk, Route route) {
            this.disk = disk;
            this.route = route;
        }

        /**
         * What was in use is made free in the new table before anything is taken: so a cluster that
         * is taken, as a damaged table told it free, stays taken.
         */
        void begin() {
            disk.loadActiveTable(table);
            for (int c = 0; c < CLUSTERS; c++) {
                taken[c] = false;
            }
            for (int level = 0; level <= route.lastName(); level++) {
                release(route.folder(level).home());
            }
        }

        void release(int cluster) {
            if (isCluster(cluster)) {
                table[cluster] = FREE;
            }
        }

        void releaseChain(FileBytes file) {
            for (int i = 0; i < file.links(); i++) {
                release(file.link(i));
            }
        }

        int takeEmpty() {
            return take(empty, 0);
        }

        /** Answers the first cluster, 0 for no bytes. */
        int takeChain(FileBytes file, int size) {
            int first = 0;
            int previous = 0;
            for (int at = 0; at < size; at += CLUSTER_BYTES) {
                int cluster = take(file.bytes(), at);
                if (cluster < 0) {
                    return cluster;
                }
                if (previous == 0) {
                    first = cluster;
                } else {
                    table[previous] = cluster;
                }
                previous = cluster;
            }
            return first;
        }

        private int take(int[] from, int at) {
            for (int c = FIRST_CLUSTER; c < CLUSTERS; c++) {
                if (disk.state(c) != FREE || taken[c]) {
                    continue;
                }
                taken[c] = true;
                if (disk.failsNow()) {
                    return WENT_DOWN;
                }
                if (!disk.isSpoilt(c)) {
                    disk.storeCluster(c, from, at);
                    table[c] = LAST;
                    return c;
                }
                table[c] = BAD;
            }
            return REFUSED;
        }

        /** Writes the directories up to the root, the table and the boot record: 0 when all is done. */
        int commit() {
            int cluster = 0;
            for (int level = route.lastName(); level >= 0; level--) {
                Folder folder = route.folder(level);
                if (level < route.lastName()) {
                    folder.set(folder.slot(), FIRST, cluster);
                }
                cluster = take(folder.bytes(), 0);
                if (cluster < 0) {
                    return cluster;
                }
            }
            return bringIntoForce(cluster);
        }

        private int bringIntoForce(int root) {
            if (disk.failsNow()) {
                return WENT_DOWN;
            }
            disk.storeOtherTable(table);
            if (disk.failsNow()) {
                return WENT_DOWN;
            }
            disk.storeBoot(root);
            return 0;
        }
    }

    /** Repairs the disk where it stands. */
    private static final class Repairer {
        private static final int DEEPEST_DIRECTORY = 4;

        private final Disk disk;
        private final boolean[] used = new boolean[CLUSTERS];
        private final int[] before = new int[CLUSTERS * CLUSTER_BYTES + 2 * TABLE_BYTES];
        private final int[] chain = new int[FILE_CLUSTERS];
        private final Folder[] folders = new Folder[DEEPEST_DIRECTORY + 1];

        Repairer(Disk disk) {
            this.disk = disk;
            for (int i = 0; i < folders.length; i++) {
                folders[i] = new Folder();
            }
        }

        int run() {
            disk.copyAll(before);
            for (int c = 0; c < CLUSTERS; c++) {
                used[c] = false;
            }
            use(disk.root());
            goThrough(disk.root(), 1);
            freeUnused();
            return disk.countOthers(before);
        }

        private void use(int cluster) {
            used[cluster] = true;
            disk.setState(cluster, LAST);
        }

        private void freeUnused() {
            for (int c = FIRST_CLUSTER; c < CLUSTERS; c++) {
                if (!used[c] && disk.state(c) != BAD) {
                    disk.setState(c, FREE);
                }
            }
        }

        /** No other directory that is gone through is on this cluster, so a copy may be worked on. */
        private void goThrough(int cluster, int depth) {
            if (depth > folders.length) {
                return;
            }
            Folder folder = folders[depth - 1];
            folder.load(disk, cluster);
            int unclaimed = 0;
            for (int slot = 0; slot < SLOTS; slot++) {
                if (folder.get(slot, KIND) != LONG) {
                    boolean right = isRight(folder, slot, depth);
                    folder.clearSlots(unclaimed, slot - (right ? folder.longParts(slot) : 0));
                    unclaimed = slot + 1;
                    mend(folder, slot, right, depth);
                }
            }
            folder.clearSlots(unclaimed, SLOTS);
            disk.storeCluster(cluster, folder.bytes(), 0);
        }

        private boolean isRight(Folder folder, int slot, int depth) {
            if (folder.get(slot, KIND) == DIRECTORY) {
                return depth <= DEEPEST_DIRECTORY && isUsable(folder.get(slot, FIRST));
            }
            return folder.get(slot, KIND) == FILE;
        }

        private boolean isUsable(int cluster) {
            return isCluster(cluster) && disk.state(cluster) != BAD && !used[cluster];
        }

        private void mend(Folder folder, int slot, boolean right, int depth) {
            int kind = folder.get(slot, KIND);
            if (!right) {
                if (kind != NO_ENTRY) {
                    folder.clearSlots(slot, slot + 1);
                }
            } else if (kind == FILE) {
                mendFile(folder, slot);
            } else {
                use(folder.get(slot, FIRST));
                folder.set(slot, SIZE, 0);
                goThrough(folder.get(slot, FIRST), depth + 1);
            }
        }

        private void mendFile(Folder folder, int slot) {
            int links = follow(folder.get(slot, FIRST));
            int size = Math.min(folder.get(slot, SIZE), CLUSTER_BYTES * links);
            int needed = (size + CLUSTER_BYTES - 1) / CLUSTER_BYTES;
            folder.set(slot, SIZE, size);
            for (int i = needed; i < links; i++) {
                used[chain[i]] = false;
            }
            if (needed == 0) {
                folder.set(slot, FIRST, 0);
            } else {
                disk.setState(chain[needed - 1], LAST);
            }
        }

        private int follow(int first) {
            int links = 0;
            int cluster = first;
            while (links < FILE_CLUSTERS && isUsable(cluster)) {
                used[cluster] = true;
                chain[links] = cluster;
                links++;
                cluster = disk.state(cluster);
            }
            return links;
        }
    }
}
