/** What the tests share: a call is compared with the answer that is due, an exception by its name. */
final class Trial {
    static final String STATE = "IllegalStateException";
    static final String ARGUMENT = "IllegalArgumentException";
    static final String UNSUPPORTED = "UnsupportedOperationException";

    interface Call {
        Object answer();
    }

    private static int wrong = 0;

    private Trial() {
    }

    static void due(Object want, Call call) {
        Object got;
        try {
            got = call.answer();
        } catch (RuntimeException e) {
            got = e.getClass().getSimpleName();
        }
        if (!want.equals(got)) {
            wrong++;
            StackTraceElement[] trace = new Throwable().getStackTrace();
            System.out.println(where(trace) + ": answered " + got + ", due is " + want);
        }
    }

    private static String where(StackTraceElement[] trace) {
        StringBuilder text = new StringBuilder();
        for (int i = 1; i < trace.length; i++) {
            text.append(i == 1 ? "" : " < ").append(trace[i].getFileName()).append(':').append(trace[i].getLineNumber());
        }
        return text.toString();
    }

    static void end() {
        if (wrong != 0) {
            System.out.println(wrong + " answers are not as due");
            System.exit(1);
        }
    }

    /** Types a text behind what is in the buffer. */
    static void append(Volume v, String text) {
        for (int from = 0; from < text.length(); from += 8) {
            String eight = text.substring(from, Math.min(text.length(), from + 8));
            due(true, () -> v.type(packed(eight)));
        }
    }

    static Volume at(Volume v, String path) {
        v.wipe();
        append(v, path);
        return v;
    }

    static long packed(String text) {
        long eight = 0;
        for (int i = 0; i < text.length(); i++) {
            eight = eight << 8 | text.charAt(i);
        }
        return eight;
    }

    /** A short name as make answers it. */
    static int name(String text) {
        return (int) packed((text + "\0\0").substring(0, 3));
    }

    static Volume withFile(String path) {
        Volume v = at(new Volume(), path);
        v.make(false, 1);
        return v;
    }

    /** Fills the file of the buffer's path up to a size with the bytes 1, 2, 3 .. */
    static void fill(Volume v, int size) {
        for (int at = 0; at < size; at += 8) {
            int n = Math.min(8, size - at);
            long bytes = 0;
            for (int i = 0; i < n; i++) {
                bytes = bytes << 8 | (at + i + 1) & 255;
            }
            long eight = bytes;
            int place = at;
            due(at + n, () -> v.write(place, eight, n, 9));
        }
    }

    /** The eight bytes of an entry on a cluster. */
    static String entry(Volume v, int cluster, int slot) {
        return bytes(v, cluster, 8 * slot, 8);
    }

    static String bytes(Volume v, int where, int from, int n) {
        StringBuilder text = new StringBuilder();
        for (int i = 0; i < n; i++) {
            text.append(i == 0 ? "" : " ").append(v.peek(where, from + i));
        }
        return text.toString();
    }

    /** Writes bytes straight on the disk. */
    static void put(Volume v, int where, int from, int... bytes) {
        for (int i = 0; i < bytes.length; i++) {
            int k = from + i;
            int b = bytes[i];
            due(true, () -> v.poke(where, k, b));
        }
    }

    static void putEntry(Volume v, int cluster, int slot, int... bytes) {
        put(v, cluster, 8 * slot, bytes);
    }

    /** All bytes of the disk and its boot record, to see that nothing has changed. */
    static String disk(Volume v) {
        return v.disk();
    }

    /** Leaves no cluster free but those told. */
    static void leaveFree(Volume v, int... clusters) {
        int active = v.peek(-1, 0);
        for (int c = 2; c < 32; c++) {
            if (v.peek(active, c) == 0) {
                v.poke(active, c, 255);
            }
        }
        for (int c : clusters) {
            v.poke(active, c, 0);
        }
    }
}
