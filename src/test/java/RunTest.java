import java.util.List;
import java.util.Random;

/** All promises on runs of 512 calls in any order and with any arguments (always the same ones), against Reference. */
public final class RunTest {
    private static final int MOST_CALLS = 512;
    private static final int[] EDGES = {Integer.MIN_VALUE, Integer.MIN_VALUE + 1, -65536, -8193, -8192, -256, -42, -41,
        -21, -20, -2, -1, 0, 0, 1, 1, 2, 3, 4, 5, 6, 7, 8, 19, 20, 21, 31, 32, 33, 40, 41, 127, 128, 255, 256, 257,
        8171, 8172, 8173, 8191, 8192, 8193, 16383, 16384, 65536, Integer.MAX_VALUE - 1, Integer.MAX_VALUE};

    private static final Due due = new Due();
    private static final Grammar grammar = new Grammar();

    private final Random random;
    private final String name;
    private final ControlText object = new ControlText();
    private final Reference reference = new Reference();
    private final StringBuilder calls = new StringBuilder();
    private int made;
    private boolean agrees = true;

    private RunTest(long seed, String name) {
        random = new Random(seed);
        this.name = name + " " + seed;
    }

    public static void main(String[] args) {
        int runs = args.length > 0 ? Integer.parseInt(args[0]) : 150;
        for (int seed = 0; seed < runs; seed++) {
            new RunTest(seed, "any calls").anyCalls();
            new RunTest(seed, "texts").texts();
            if (seed % 3 == 0) {
                new RunTest(seed, "long text").longText();
            }
        }
        due.end();
    }

    private boolean goesOn() {
        return agrees && made < MOST_CALLS;
    }

    private void compare(String call, int got, int want) {
        made++;
        calls.append(call).append(" = ").append(want).append('\n');
        due.is(name + ", call " + made + ":\n" + (got == want ? call : calls), got, want);
        agrees = got == want;
    }

    private void anyCalls() {
        while (goesOn()) {
            anyCall();
        }
    }

    private void texts() {
        while (goesOn()) {
            feedText(text());
            read();
            for (int i = random.nextInt(30); i > 0 && goesOn(); i--) {
                if (random.nextInt(3) == 0) {
                    anyCall();
                } else {
                    ask();
                }
            }
        }
    }

    /** Blanks up to about 8,192 bytes, and then calls that make it longer and shorter. */
    private void longText() {
        int blanks = 0x20202020;
        for (int i = 400 + random.nextInt(10); i > 0; i--) {
            feed(blanks, blanks, blanks, blanks, blanks);
        }
        while (goesOn()) {
            switch (random.nextInt(8)) {
                case 0: case 1: feed(blanks, blanks, blanks, blanks, blanks); break;
                case 2: end(random.nextInt(21)); break;
                case 3: feedText(text()); break;
                case 4: read(); break;
                default: anyCall();
            }
        }
    }

    private String text() {
        if (random.nextInt(5) == 0) {
            return deepText();
        }
        List<String> tokens = grammar.some(random, 30);
        StringBuilder text = new StringBuilder();
        for (String token : tokens) {
            text.append(spelt(token)).append(random.nextBoolean() ? " " : "\n");
        }
        if (random.nextInt(4) == 0 && text.length() > 0) {
            text.setCharAt(random.nextInt(text.length()), (char) random.nextInt(256));
        }
        return text.toString();
    }

    /** With about sixty tokens open, and a fault behind them or none. */
    private String deepText() {
        String[] openings = {"(", "-", "NOT ", "a[", "f(", "a+", "b OR ", "c*"};
        StringBuilder text = new StringBuilder("PROGRAM p x:=");
        StringBuilder behind = new StringBuilder();
        for (int i = 56 + random.nextInt(7); i > 0; i--) {
            String opening = openings[random.nextInt(openings.length)];
            text.append(opening);
            behind.insert(0, opening.endsWith("(") ? ")" : opening.endsWith("[") ? "]" : "");
        }
        String[] ends = {"1", "1", "1", "", "@", "1 2", "%IX256", "12a", "(*"};
        return text.append(ends[random.nextInt(ends.length)]).append(behind).append(";END_PROGRAM").toString();
    }

    private String spelt(String token) {
        switch (token) {
            case "name": return "" + "aBcT_".charAt(random.nextInt(5)) + random.nextInt(9);
            case "number": return new String[] {"7", "16#fF", "T#3H", "2147483647"}[random.nextInt(4)];
            case "place": return "%iX" + random.nextInt(256);
            default: return token.startsWith("'") ? token.substring(1, token.length() - 1) : token;
        }
    }

    /** Behind what is there, or, mostly, in its place; the last twenty bytes are cut where it ends. */
    private void feedText(String text) {
        if (random.nextInt(4) != 0) {
            clear();
        }
        for (int i = 0; i < text.length() && goesOn(); i += 20) {
            int[] five = new int[5];
            for (int k = 0; k < 20; k++) {
                five[k / 4] = five[k / 4] << 8 | (i + k < text.length() ? text.charAt(i + k) : 0);
            }
            feed(five[0], five[1], five[2], five[3], five[4]);
            if (i + 20 > text.length()) {
                end(text.length() - i);
            }
        }
    }

    private int argument() {
        switch (random.nextInt(4)) {
            case 0: return random.nextInt(10);
            case 1: return random.nextInt();
            case 2: return near(reference.count(2 + random.nextInt(4)));
            default: return EDGES[random.nextInt(EDGES.length)];
        }
    }

    private int near(int size) {
        return size - 3 + random.nextInt(6);
    }

    /** One that there is, or nearly. */
    private int below(int size) {
        return random.nextInt(size + 2) - 1;
    }

    private void anyCall() {
        switch (random.nextInt(12)) {
            case 0: feed(argument(), argument(), argument(), argument(), argument()); break;
            case 1: end(random.nextBoolean() ? argument() : random.nextInt(21)); break;
            case 2: change(argument(), random.nextBoolean() ? argument() : 32); break;
            case 3: read(); break;
            case 4: count(argument()); break;
            case 5: node(argument(), argument()); break;
            case 6: nameByte(argument(), argument()); break;
            case 7: write(); break;
            case 8: byteAt(argument()); break;
            case 9: back(); break;
            case 10: ask(); break;
            default:
                if (random.nextInt(4) == 0) {
                    clear();
                } else {
                    change(below(reference.count(4)), random.nextInt(256));
                }
        }
    }

    private void ask() {
        switch (random.nextInt(7)) {
            case 0: count(random.nextInt(6)); break;
            case 1: case 2: node(below(reference.count(2)), random.nextInt(5)); break;
            case 3: nameByte(below(reference.count(3)), random.nextInt(3)); break;
            case 4: byteAt(below(reference.count(5))); break;
            case 5: write(); break;
            default: back();
        }
    }

    private void clear() {
        if (goesOn()) {
            compare("clear()", object.clear(), reference.clear());
        }
    }

    private void feed(int a, int b, int c, int d, int e) {
        if (goesOn()) {
            String call = "feed(" + a + ", " + b + ", " + c + ", " + d + ", " + e + ")";
            compare(call, object.feed(a, b, c, d, e), reference.feed(a, b, c, d, e));
        }
    }

    private void end(int n) {
        if (goesOn()) {
            compare("end(" + n + ")", object.end(n), reference.end(n));
        }
    }

    private void change(int i, int v) {
        if (goesOn()) {
            compare("change(" + i + ", " + v + ")", object.change(i, v), reference.change(i, v));
        }
    }

    private void read() {
        if (goesOn()) {
            compare("read()", object.read(), reference.read());
        }
    }

    private void count(int which) {
        if (goesOn()) {
            compare("count(" + which + ")", object.count(which), reference.count(which));
        }
    }

    private void node(int n, int what) {
        if (goesOn()) {
            compare("node(" + n + ", " + what + ")", object.node(n, what), reference.node(n, what));
        }
    }

    private void nameByte(int number, int k) {
        if (goesOn()) {
            compare("nameByte(" + number + ", " + k + ")", object.nameByte(number, k), reference.nameByte(number, k));
        }
    }

    private void write() {
        if (goesOn()) {
            compare("write()", object.write(), reference.write());
        }
    }

    private void byteAt(int i) {
        if (goesOn()) {
            compare("byteAt(" + i + ")", object.byteAt(i), reference.byteAt(i));
        }
    }

    private void back() {
        if (goesOn()) {
            compare("back()", object.back(), reference.back());
        }
    }
}
