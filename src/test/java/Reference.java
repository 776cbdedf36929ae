/** The whole face as the document tells it, in its plainest form, with Model for what is read and written. */
final class Reference {
    private static final int NONE = -1;

    private final StringBuilder text = new StringBuilder();
    private Model lastRead;
    private int[][] nodes = {};
    private String written = "";

    int clear() {
        int had = text.length();
        text.setLength(0);
        return had;
    }

    int feed(int... numbers) {
        if (text.length() > 8172) {
            return NONE;
        }
        for (int number : numbers) {
            for (int shift = 24; shift >= 0; shift -= 8) {
                text.append((char) (number >> shift & 255));
            }
        }
        return text.length();
    }

    int end(int n) {
        if (n < 0 || n > 20 || text.length() < 20) {
            return NONE;
        }
        text.setLength(text.length() - 20 + n);
        return text.length();
    }

    int change(int i, int v) {
        if (i < 0 || i >= text.length() || v < 0 || v > 255) {
            return NONE;
        }
        int was = text.charAt(i);
        text.setCharAt(i, (char) v);
        return was;
    }

    int read() {
        lastRead = new Model(text.toString());
        String lines = lastRead.treeLines();
        nodes = lines.isEmpty() ? new int[0][] : lines.lines().map(Reference::numbers).toArray(int[][]::new);
        return lastRead.fault;
    }

    private static int[] numbers(String line) {
        String[] parts = line.split(" ");
        int[] all = new int[parts.length];
        for (int i = 0; i < parts.length; i++) {
            all[i] = Integer.parseInt(parts[i]);
        }
        return all;
    }

    int count(int which) {
        switch (which) {
            case 0: return lastRead == null ? 0 : lastRead.fault;
            case 1: return lastRead == null ? NONE : lastRead.place;
            case 2: return nodes.length;
            case 3: return lastRead == null ? 0 : lastRead.names.size();
            case 4: return text.length();
            case 5: return written.length();
            default: return NONE;
        }
    }

    int node(int n, int what) {
        return n < 0 || n >= nodes.length || what < 0 || what > 4 ? NONE : nodes[n][what];
    }

    int nameByte(int name, int k) {
        if (name < 0 || name >= count(3) || k < 0 || k >= lastRead.names.get(name).length()) {
            return NONE;
        }
        return lastRead.names.get(name).charAt(k);
    }

    int write() {
        if (nodes.length == 0) {
            return NONE;
        }
        written = lastRead.written();
        return written.length();
    }

    int byteAt(int i) {
        return i < 0 || i >= written.length() ? NONE : written.charAt(i);
    }

    int back() {
        if (written.isEmpty() || written.length() > 8192) {
            return NONE;
        }
        text.setLength(0);
        text.append(written);
        return written.length();
    }
}
