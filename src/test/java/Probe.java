import java.nio.charset.StandardCharsets;

/**
 * An object of ControlText that has read a text. As nothing is promised behind 512 calls, it is made anew, with
 * the same text, before that.
 */
final class Probe {
    private static final int MOST_CALLS = 512;

    private final byte[] text;
    private ControlText object;
    private int calls;
    private boolean hasWritten;

    Probe(String text) {
        this.text = text.getBytes(StandardCharsets.ISO_8859_1);
        renew();
    }

    private void renew() {
        object = new ControlText();
        calls = feed(object, text);
        object.read();
        calls++;
        if (hasWritten) {
            object.write();
            calls++;
        }
    }

    /** The object, for one call more. */
    private ControlText object() {
        if (calls == MOST_CALLS) {
            renew();
        }
        calls++;
        return object;
    }

    /** Feeds a text of up to 8,192 bytes to an object that has none: how many calls it took. */
    static int feed(ControlText object, byte[] text) {
        int calls = 0;
        int fed = 0;
        int rest = text.length % 20;
        while (fed < text.length - rest) {
            feedTwenty(object, text, fed);
            fed += 20;
            calls++;
        }
        if (rest == 0) {
            return calls;
        }
        if (fed + 20 > 8192) {
            // Twenty bytes more have no room, so the last twenty begin earlier.
            object.end(rest);
            feedTwenty(object, text, text.length - 20);
        } else {
            feedTwenty(object, text, fed);
            object.end(rest);
        }
        return calls + 2;
    }

    private static void feedTwenty(ControlText object, byte[] text, int i) {
        object.feed(four(text, i), four(text, i + 4), four(text, i + 8), four(text, i + 12), four(text, i + 16));
    }

    static int feed(ControlText object, String text) {
        return feed(object, text.getBytes(StandardCharsets.ISO_8859_1));
    }

    private static int four(byte[] text, int from) {
        int number = 0;
        for (int i = from; i < from + 4; i++) {
            number = number << 8 | (i < text.length ? text[i] & 255 : 0);
        }
        return number;
    }

    int fault() {
        return object().count(0);
    }

    int place() {
        return object().count(1);
    }

    int nodes() {
        return object().count(2);
    }

    int names() {
        return object().count(3);
    }

    int node(int n, int what) {
        return object().node(n, what);
    }

    /** "fault f at p", or "read". */
    String answer() {
        return fault() == 0 ? "read" : "fault " + fault() + " at " + place();
    }

    /** A line for each node: kind, place, value, parent, children. */
    String tree() {
        StringBuilder all = new StringBuilder();
        int nodes = nodes();
        for (int n = 0; n < nodes; n++) {
            for (int what = 0; what < 5; what++) {
                all.append(what == 0 ? "" : " ").append(node(n, what));
            }
            all.append('\n');
        }
        return all.toString();
    }

    /** A line for each name. */
    String namesInOrder() {
        StringBuilder all = new StringBuilder();
        int names = names();
        for (int name = 0; name < names; name++) {
            int k = 0;
            for (int b = object().nameByte(name, 0); b != ControlText.NONE; b = object().nameByte(name, ++k)) {
                all.append((char) b);
            }
            all.append('\n');
        }
        return all.toString();
    }

    String written() {
        int length = object().write();
        hasWritten = true;
        StringBuilder all = new StringBuilder();
        for (int i = 0; i < length; i++) {
            all.append((char) object().byteAt(i));
        }
        return all.toString();
    }
}
