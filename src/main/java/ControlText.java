/** Reads texts for a controller into a tree, and writes such a tree as a text again. */
public final class ControlText {
    public static final int NONE = -1;

    private static final int MOST_BYTES = 8192;
    private static final int FED_AT_ONCE = 20;
    private static final int MOST_OPEN = 60;
    private static final int MOST_NAME_BYTES = 32;
    private static final long MOST_NUMBER = 2147483647L;
    // Of the places, IX QX MX come before IW QW MW.
    private static final int FIRST_WORD_ROW = 3;

    // A choice "1:" makes four nodes of two bytes, and nothing makes more of as few.
    private static final int MOST_NODES = 2 * MOST_BYTES;
    // Only a number by T# grows when written, at most from "T#3H" to "10800000".
    private static final int MOST_WRITTEN = 2 * MOST_BYTES;

    private static final int FAULT_BYTE = 1;
    private static final int FAULT_COMMENT = 2;
    private static final int FAULT_NAME = 3;
    private static final int FAULT_NUMBER = 4;
    private static final int FAULT_PLACE = 5;
    private static final int FAULT_CANNOT_COME = 6;
    private static final int FAULT_DEPTH = 7;

    private final Bytes text;
    private final Bytes written;
    private final Names names;
    private final Tokens tokens;
    private final Tree tree;
    private final Parser parser;
    private final Writer writer;

    public ControlText() {
        text = new Bytes(MOST_BYTES);
        written = new Bytes(MOST_WRITTEN);
        names = new Names();
        tokens = new Tokens(text, names);
        tree = new Tree();
        parser = new Parser(tokens, tree);
        writer = new Writer(tree, names, written);
    }

    public int clear() {
        int had = text.size;
        text.cut(0);
        return had;
    }

    public int feed(int a, int b, int c, int d, int e) {
        if (text.size + FED_AT_ONCE > MOST_BYTES) {
            return NONE;
        }
        feedNumber(a);
        feedNumber(b);
        feedNumber(c);
        feedNumber(d);
        feedNumber(e);
        return text.size;
    }

    private void feedNumber(int number) {
        for (int shift = 24; shift >= 0; shift -= 8) {
            text.put(number >>> shift & 255);
        }
    }

    public int end(int n) {
        if (n < 0 || n > FED_AT_ONCE || text.size < FED_AT_ONCE) {
            return NONE;
        }
        text.cut(text.size - FED_AT_ONCE + n);
        return text.size;
    }

    public int change(int i, int v) {
        if (v < 0 || v > 255) {
            return NONE;
        }
        return text.swap(i, v);
    }

    public int read() {
        tokens.scan();
        parser.parse();
        if (parser.fault == 0) {
            tree.link();
        } else {
            tree.forget();
            names.forget();
        }
        return parser.fault;
    }

    public int count(int which) {
        switch (which) {
            case 0: return parser.fault;
            case 1: return parser.faultPlace;
            case 2: return tree.size;
            case 3: return names.size - Word.COUNT;
            case 4: return text.size;
            case 5: return written.size;
            default: return NONE;
        }
    }

    public int node(int n, int what) {
        switch (what) {
            case 0: return tree.kind(n);
            case 1: return tree.place(n);
            case 2: return tree.value(n);
            case 3: return tree.parent(n);
            case 4: return tree.children(n);
            default: return NONE;
        }
    }

    public int nameByte(int name, int k) {
        if (name < 0 || name >= names.size - Word.COUNT) {
            return NONE;
        }
        return names.letterOf(Word.COUNT + name, k);
    }

    public int write() {
        if (tree.size == 0) {
            return NONE;
        }
        writer.writeTree();
        return written.size;
    }

    public int byteAt(int i) {
        return written.get(i);
    }

    public int back() {
        if (written.size == 0 || written.size > MOST_BYTES) {
            return NONE;
        }
        text.cut(0);
        for (int i = 0; i < written.size; i++) {
            text.put(written.get(i));
        }
        return text.size;
    }

    /** The words, and their token kinds in the same order. */
    private static final class Word {
        static final String OF_BLOCKS = "FUNCTION END_FUNCTION FUNCTION_BLOCK END_FUNCTION_BLOCK PROGRAM END_PROGRAM";
        static final String OF_SECTIONS = "VAR VAR_INPUT VAR_OUTPUT END_VAR AT BOOL INT DINT ARRAY OF";
        static final String OF_CHOICES = "IF THEN ELSIF ELSE END_IF CASE END_CASE";
        static final String OF_LOOPS = "FOR TO BY DO END_FOR EXIT RETURN";
        static final String OF_EXPRESSIONS = "OR XOR AND MOD NOT TRUE FALSE";
        static final String OF_LADDERS = "LADDER END_LADDER RUNG END_RUNG";
        // Above the sum of the lengths of all these.
        static final int MOST_LETTERS = 512;
        static final int COUNT = 41;

        // Above all bytes, so that a sign of one byte can be its own token kind.
        static final int FIRST = 256;
        static final int FUNCTION = FIRST;
        static final int END_FUNCTION = FIRST + 1;
        static final int FUNCTION_BLOCK = FIRST + 2;
        static final int END_FUNCTION_BLOCK = FIRST + 3;
        static final int PROGRAM = FIRST + 4;
        static final int END_PROGRAM = FIRST + 5;
        static final int VAR = FIRST + 6;
        static final int VAR_INPUT = FIRST + 7;
        static final int VAR_OUTPUT = FIRST + 8;
        static final int END_VAR = FIRST + 9;
        static final int AT = FIRST + 10;
        static final int BOOL = FIRST + 11;
        static final int INT = FIRST + 12;
        static final int DINT = FIRST + 13;
        static final int ARRAY = FIRST + 14;
        static final int OF = FIRST + 15;
        static final int IF = FIRST + 16;
        static final int THEN = FIRST + 17;
        static final int ELSIF = FIRST + 18;
        static final int ELSE = FIRST + 19;
        static final int END_IF = FIRST + 20;
        static final int CASE = FIRST + 21;
        static final int END_CASE = FIRST + 22;
        static final int FOR = FIRST + 23;
        static final int TO = FIRST + 24;
        static final int BY = FIRST + 25;
        static final int DO = FIRST + 26;
        static final int END_FOR = FIRST + 27;
        static final int EXIT = FIRST + 28;
        static final int RETURN = FIRST + 29;
        static final int OR = FIRST + 30;
        static final int XOR = FIRST + 31;
        static final int AND = FIRST + 32;
        static final int MOD = FIRST + 33;
        static final int NOT = FIRST + 34;
        static final int TRUE = FIRST + 35;
        static final int FALSE = FIRST + 36;
        static final int LADDER = FIRST + 37;
        static final int END_LADDER = FIRST + 38;
        static final int RUNG = FIRST + 39;
        static final int END_RUNG = FIRST + 40;
    }

    /** Signs of two bytes (first byte times 256, and the second), and what stands between operands. */
    private static final class Sign {
        static final int ASSIGN = ':' << 8 | '=';
        static final int RANGE = '.' << 8 | '.';
        static final int AT_MOST = '<' << 8 | '=';
        static final int AT_LEAST = '>' << 8 | '=';
        static final int UNLIKE = '<' << 8 | '>';

        // By the value of a TWO.
        private static final int[] BETWEEN = {
            Word.OR, Word.XOR, '&', '=', UNLIKE, '<', '>', AT_MOST, AT_LEAST, '+', '-', '*', '/', Word.MOD
        };
        private static final int[] BINDING = {0, 1, 2, 3, 3, 4, 4, 4, 4, 5, 5, 6, 6, 6};

        /** The value of the TWO that this token makes, or NONE. */
        static int operation(int kind) {
            switch (kind) {
                case Word.OR: return 0;
                case Word.XOR: return 1;
                case Word.AND: return 2;
                case '&': return 2;
                case '=': return 3;
                case UNLIKE: return 4;
                case '<': return 5;
                case '>': return 6;
                case AT_MOST: return 7;
                case AT_LEAST: return 8;
                case '+': return 9;
                case '-': return 10;
                case '*': return 11;
                case '/': return 12;
                case Word.MOD: return 13;
                default: return NONE;
            }
        }

        /** How a TWO of this value is written, or NONE. */
        static int between(int operation) {
            return operation >= 0 && operation < BETWEEN.length ? BETWEEN[operation] : NONE;
        }

        /** How close it binds, or NONE for no operation: less than any. */
        static int binding(int operation) {
            return operation >= 0 && operation < BINDING.length ? BINDING[operation] : NONE;
        }
    }

    /** The kinds of the nodes. */
    private static final class Kind {
        static final int TEXT = 0;
        static final int FUNCTION = 1;
        static final int FUNCTION_BLOCK = 2;
        static final int PROGRAM = 3;
        static final int SECTION = 4;
        static final int DECLARATION = 5;
        static final int NAME = 6;
        static final int PLACE = 7;
        static final int TYPE = 8;
        static final int ARRAY = 9;
        static final int BLOCK_TYPE = 10;
        static final int BODY = 11;
        static final int ASSIGNMENT = 12;
        static final int INVOCATION = 13;
        static final int PARAMETER = 14;
        static final int IF = 15;
        static final int CASE = 16;
        static final int CHOICE = 17;
        static final int RANGE = 18;
        static final int FOR = 19;
        static final int EXIT = 20;
        static final int RETURN = 21;
        static final int LADDER = 22;
        static final int RUNG = 23;
        static final int ROW = 24;
        static final int CONTACT = 25;
        static final int WIRE = 26;
        static final int GAP = 27;
        static final int COIL = 28;
        static final int LINK = 29;
        static final int NUMBER = 30;
        static final int TRUTH = 31;
        static final int ELEMENT = 32;
        static final int OUTPUT = 33;
        static final int CALL = 34;
        static final int TWO = 35;
        static final int ONE = 36;
    }

    /** A row of bytes that grows up to a bound. */
    private static final class Bytes {
        private final int[] bytes;
        private int size;

        Bytes(int most) {
            bytes = new int[most < 0 ? 0 : most];
        }

        int get(int i) {
            return i >= 0 && i < size && i < bytes.length ? bytes[i] : NONE;
        }

        void put(int value) {
            if (size >= 0 && size < bytes.length) {
                bytes[size] = value;
                size++;
            }
        }

        /** What was there, or NONE if nothing is there to be changed. */
        int swap(int i, int value) {
            int was = get(i);
            if (was != NONE && i >= 0 && i < bytes.length) {
                bytes[i] = value;
            }
            return was;
        }

        void cut(int length) {
            if (length >= 0 && length < size) {
                size = length;
            }
        }
    }

    /** All words, then all names of the text, each once and numbered as they first came. */
    private static final class Names {
        // Names are parted by at least one byte.
        private static final int MOST = Word.COUNT + MOST_BYTES / 2;
        private static final int SLOTS = 8192;

        private final int[] letters = new int[Word.MOST_LETTERS + MOST_BYTES];
        private final int[] starts = new int[MOST + 1];
        private final int[] slotOf = new int[MOST];
        // 0 for an empty slot, otherwise 1 more than the number that is there.
        private final int[] slots = new int[SLOTS];
        private int size;
        private int used;

        Names() {
            addWords(Word.OF_BLOCKS);
            addWords(Word.OF_SECTIONS);
            addWords(Word.OF_CHOICES);
            addWords(Word.OF_LOOPS);
            addWords(Word.OF_EXPRESSIONS);
            addWords(Word.OF_LADDERS);
        }

        private void addWords(String words) {
            for (int i = 0; i < words.length(); i++) {
                if (words.charAt(i) == ' ') {
                    number();
                } else {
                    addLetter(words.charAt(i));
                }
            }
            number();
        }

        /** Leaves the words alone. */
        void forget() {
            for (int id = Word.COUNT; id < size && id < MOST; id++) {
                int slot = slotOf[id];
                if (slot >= 0 && slot < SLOTS) {
                    slots[slot] = 0;
                }
            }
            size = Word.COUNT;
            used = starts[Word.COUNT];
        }

        /** One letter more of the name that number() is asked for next. */
        void addLetter(int letter) {
            if (used >= 0 && used < letters.length) {
                letters[used] = great(letter);
                used++;
            }
        }

        /** The number of the name whose letters were added since the last call. */
        int number() {
            int slot = firstSlot();
            for (int turn = 0; turn < SLOTS && slot >= 0 && slot < SLOTS; turn++) {
                int id = slots[slot] - 1;
                if (id < 0) {
                    return keep(slot);
                }
                if (isAddedLast(id)) {
                    used = startOf(size);
                    return id;
                }
                slot = slot + 1 & SLOTS - 1;
            }
            return NONE;
        }

        private int firstSlot() {
            int hash = 0;
            for (int i = startOf(size); i < used && i < letters.length; i++) {
                hash = 31 * hash + letters[i];
            }
            return hash & SLOTS - 1;
        }

        private int keep(int slot) {
            if (size < 0 || size >= MOST || slot < 0 || slot >= SLOTS) {
                return NONE;
            }
            int id = size;
            slots[slot] = id + 1;
            slotOf[id] = slot;
            size++;
            starts[size] = used;
            return id;
        }

        private boolean isAddedLast(int id) {
            int known = startOf(id);
            int added = startOf(size);
            int length = used - added;
            if (startOf(id + 1) - known != length || known + length > letters.length || used > letters.length) {
                return false;
            }
            for (int i = 0; i < length; i++) {
                if (letters[known + i] != letters[added + i]) {
                    return false;
                }
            }
            return true;
        }

        private int startOf(int id) {
            return id >= 0 && id <= MOST ? starts[id] : 0;
        }

        /** Letter k of a word or name, or NONE. */
        int letterOf(int id, int k) {
            if (id < 0 || id >= size || id >= MOST || k < 0 || k >= starts[id + 1] - starts[id]) {
                return NONE;
            }
            int i = starts[id] + k;
            return i >= 0 && i < letters.length ? letters[i] : NONE;
        }
    }

    private static boolean isDigit(int b) {
        return b >= '0' && b <= '9';
    }

    /** Whether it stands in names, at least behind their first byte. */
    private static boolean isNameByte(int b) {
        return b >= 'A' && b <= 'Z' || b >= 'a' && b <= 'z' || b >= '0' && b <= '9' || b == '_';
    }

    private static int great(int b) {
        return b >= 'a' && b <= 'z' ? b - 'a' + 'A' : b;
    }

    /**
     * The tokens of the text up to its end or to the first badly written one, which is the last one then.
     * A token's kind is that of its word (see Word), its sign, or one of those below.
     */
    private static final class Tokens {
        static final int NAME = 1;
        static final int NUMBER = 2;
        static final int PLACE = 3;
        static final int END = 4;
        // Its value is the fault.
        static final int BAD = 5;
        // No token of a text: what comes behind the last one.
        static final int STOP = 6;

        private static final int MOST = MOST_BYTES + 1;
        // Above every number that is allowed, yet it never grows out of a long.
        private static final long TOO_MUCH = MOST_NUMBER + 1;

        private final Bytes text;
        private final Names names;
        private final int[] kinds = new int[MOST];
        private final int[] places = new int[MOST];
        private final int[] values = new int[MOST];
        private int size;
        private int at;

        Tokens(Bytes text, Names names) {
            this.text = text;
            this.names = names;
        }

        int kind(int i) {
            return i >= 0 && i < size && i < MOST ? kinds[i] : STOP;
        }

        int place(int i) {
            return i >= 0 && i < size && i < MOST ? places[i] : NONE;
        }

        int value(int i) {
            return i >= 0 && i < size && i < MOST ? values[i] : 0;
        }

        void scan() {
            names.forget();
            size = 0;
            at = 0;
            boolean more = true;
            for (int turn = 0; more && turn < MOST; turn++) {
                scanToken();
                int last = kind(size - 1);
                more = last != END && last != BAD;
            }
        }

        private void add(int kind, int place, int value) {
            if (size >= 0 && size < MOST) {
                kinds[size] = kind;
                places[size] = place;
                values[size] = value;
                size++;
            }
        }

        private void scanToken() {
            boolean commentsEnd = skipBlanks();
            int first = text.get(at);
            if (!commentsEnd) {
                add(BAD, at, FAULT_COMMENT);
            } else if (first == NONE) {
                add(END, at, 0);
            } else if (great(first) == 'T' && text.get(at + 1) == '#') {
                scanTime();
            } else if (isDigit(first)) {
                scanNumber();
            } else if (isNameByte(first)) {
                scanName();
            } else if (first == '%') {
                scanPlace();
            } else {
                scanSign();
            }
        }

        /** False, at its beginning, if a comment does not end. */
        private boolean skipBlanks() {
            for (int turn = 0; turn <= MOST_BYTES; turn++) {
                int b = text.get(at);
                if (b == '(' && text.get(at + 1) == '*') {
                    int end = endOfComment(at + 2);
                    if (end == NONE) {
                        return false;
                    }
                    at = end;
                } else if (b == 9 || b == 10 || b == 13 || b == 32) {
                    at++;
                } else {
                    return true;
                }
            }
            return true;
        }

        private int endOfComment(int from) {
            for (int i = from; i < text.size; i++) {
                if (text.get(i) == '*' && text.get(i + 1) == ')') {
                    return i + 2;
                }
            }
            return NONE;
        }

        private void scanName() {
            int start = at;
            for (int turn = 0; turn < MOST_BYTES && isNameByte(text.get(at)); turn++) {
                at++;
            }
            if (at - start > MOST_NAME_BYTES) {
                add(BAD, start, FAULT_NAME);
                return;
            }
            for (int i = start; i < at; i++) {
                names.addLetter(text.get(i));
            }
            int number = names.number();
            if (number < Word.COUNT) {
                add(Word.FIRST + number, start, 0);
            } else {
                add(NAME, start, number - Word.COUNT);
            }
        }

        private void scanNumber() {
            int start = at;
            long value = digits(10);
            if (text.get(at) == '#') {
                at++;
                value = value == 16 || value == 2 ? digits((int) value) : NONE;
            }
            addNumber(start, value);
        }

        private void scanTime() {
            int start = at;
            at += 2;
            long value = digits(10);
            long unit = unit();
            addNumber(start, value == NONE || unit == NONE ? NONE : value * unit);
        }

        private void addNumber(int start, long value) {
            if (value < 0 || value > MOST_NUMBER || isNameByte(text.get(at))) {
                add(BAD, start, FAULT_NUMBER);
            } else {
                add(NUMBER, start, (int) value);
            }
        }

        /** What the digits from here on mean, TOO_MUCH for all that is more; NONE if there is no digit. */
        private long digits(int base) {
            long value = 0;
            int start = at;
            for (int turn = 0; turn < MOST_BYTES; turn++) {
                int digit = digit(text.get(at));
                if (digit == NONE || digit >= base) {
                    break;
                }
                value = Math.min(TOO_MUCH, value * base + digit);
                at++;
            }
            return at == start ? NONE : value;
        }

        private static int digit(int b) {
            int letter = great(b);
            if (letter >= 'A' && letter <= 'F') {
                return letter - 'A' + 10;
            }
            return isDigit(b) ? b - '0' : NONE;
        }

        private long unit() {
            int first = great(text.get(at));
            if (first == 'M' && great(text.get(at + 1)) == 'S') {
                at += 2;
                return 1;
            }
            at++;
            switch (first) {
                case 'S': return 1000;
                case 'M': return 60000;
                case 'H': return 3600000;
                default: return NONE;
            }
        }

        private void scanPlace() {
            int start = at;
            int row = placeRow(great(text.get(at + 1)), great(text.get(at + 2)));
            at += 3;
            long number = digits(10);
            int most = row < FIRST_WORD_ROW ? 255 : 63;
            if (row == NONE || number == NONE || number > most || isNameByte(text.get(at))) {
                add(BAD, start, FAULT_PLACE);
            } else {
                add(PLACE, start, 256 * row + (int) number);
            }
        }

        /** How many are before it in IX QX MX IW QW MW, or NONE. */
        private static int placeRow(int first, int second) {
            int inSize = first == 'I' ? 0 : first == 'Q' ? 1 : first == 'M' ? 2 : NONE;
            if (inSize == NONE || second != 'X' && second != 'W') {
                return NONE;
            }
            return second == 'X' ? inSize : FIRST_WORD_ROW + inSize;
        }

        private void scanSign() {
            int start = at;
            int first = text.get(at);
            int both = first << 8 | Math.max(0, text.get(at + 1));
            if (isSignOfTwo(both)) {
                at += 2;
                add(both, start, 0);
            } else if (isSignOfOne(first)) {
                at++;
                add(first, start, 0);
            } else {
                add(BAD, start, FAULT_BYTE);
            }
        }

        private static boolean isSignOfOne(int b) {
            switch (b) {
                case '(':
                case ')':
                case '[':
                case ']':
                case ',':
                case ';':
                case ':':
                case '.':
                case '+':
                case '-':
                case '*':
                case '/':
                case '=':
                case '<':
                case '>':
                case '&':
                case '|':
                    return true;
                default:
                    return false;
            }
        }

        private static boolean isSignOfTwo(int both) {
            return both == Sign.ASSIGN || both == Sign.RANGE || both == Sign.AT_MOST
                || both == Sign.AT_LEAST || both == Sign.UNLIKE;
        }
    }

    /** The nodes in their order: each before its children, these with all that is below them. */
    private static final class Tree {
        private final int[] kinds = new int[MOST_NODES];
        private final int[] places = new int[MOST_NODES];
        private final int[] values = new int[MOST_NODES];
        private final int[] children = new int[MOST_NODES];
        private final int[] parents = new int[MOST_NODES];
        // Which child of its parent a node is.
        private final int[] ranks = new int[MOST_NODES];
        private final int[] met = new int[MOST_NODES];
        private int size;

        void forget() {
            size = 0;
        }

        private boolean has(int n) {
            return n >= 0 && n < size && n < MOST_NODES;
        }

        int kind(int n) {
            return has(n) ? kinds[n] : NONE;
        }

        int place(int n) {
            return has(n) ? places[n] : NONE;
        }

        int value(int n) {
            return has(n) ? values[n] : NONE;
        }

        int children(int n) {
            return has(n) ? children[n] : NONE;
        }

        int parent(int n) {
            return has(n) ? parents[n] : NONE;
        }

        int rank(int n) {
            return has(n) ? ranks[n] : NONE;
        }

        /** A new last node, as the next child of its parent. */
        int add(int parent, int kind, int place, int value) {
            int n = size;
            if (n < 0 || n >= MOST_NODES) {
                return NONE;
            }
            if (parent >= 0 && parent < n) {
                children[parent]++;
            }
            kinds[n] = kind;
            places[n] = place;
            values[n] = value;
            children[n] = 0;
            size++;
            return n;
        }

        /** A new node in the place of node n, which becomes its first child; all behind n must be below n. */
        void wrap(int n, int kind, int place, int value) {
            if (!has(n) || size >= MOST_NODES) {
                return;
            }
            int length = size - n;
            System.arraycopy(kinds, n, kinds, n + 1, length);
            System.arraycopy(places, n, places, n + 1, length);
            System.arraycopy(values, n, values, n + 1, length);
            System.arraycopy(children, n, children, n + 1, length);
            kinds[n] = kind;
            places[n] = place;
            values[n] = value;
            children[n] = 1;
            size++;
        }

        /** Parents are only told once the tree is whole, as wrap() moves nodes. */
        void link() {
            int above = NONE;
            for (int n = 0; n < size && n < MOST_NODES; n++) {
                above = firstUnfilled(above);
                parents[n] = above;
                ranks[n] = has(above) ? met[above]++ : 0;
                met[n] = 0;
                above = n;
            }
        }

        /** The node itself or the nearest one above it that has children to come. */
        private int firstUnfilled(int from) {
            int n = from;
            for (int turn = 0; turn < size && has(n) && met[n] >= children[n]; turn++) {
                n = parents[n];
            }
            return n;
        }
    }

    /**
     * Makes the tree of the tokens by descent. Where a token can't come, a STOP is at hand from then on, which
     * nothing takes: so all that is begun ends without taking any token more.
     */
    private static final class Parser {
        // Stands before the first token.
        private static final int START = NONE;

        private final Tokens tokens;
        private final Tree tree;
        // The token at hand.
        private int at;
        private int kind;
        private int place;
        private int value;
        private int placeBefore;
        // How many are open: signs and words between operands, and all others.
        private int signs;
        private int open;
        private boolean tooDeep;
        private int fault;
        private int faultPlace = NONE;

        Parser(Tokens tokens, Tree tree) {
            this.tokens = tokens;
            this.tree = tree;
        }

        void parse() {
            at = NONE;
            kind = START;
            signs = 0;
            open = 0;
            tooDeep = false;
            take(START);
            tree.forget();
            int text = tree.add(NONE, Kind.TEXT, 0, 0);
            for (int turn = 0; turn < MOST_BYTES && startsBlock(); turn++) {
                int word = kind;
                int block = blockHead(text);
                sections(block);
                if (kind == Word.LADDER) {
                    ladder(block);
                } else {
                    body(block);
                }
                take(endOfBlock(word));
            }
            take(Tokens.END);
            tellFault();
        }

        private void tellFault() {
            int refused = tokens.kind(at);
            if (refused == Tokens.STOP) {
                // All tokens were taken.
                fault = 0;
            } else if (refused == Tokens.BAD) {
                fault = tokens.value(at);
            } else {
                fault = tooDeep ? FAULT_DEPTH : FAULT_CANNOT_COME;
            }
            faultPlace = tokens.place(at);
        }

        /** The token at hand must be of this kind; the next one is at hand then. */
        private void take(int wanted) {
            if (kind != wanted || kind == Tokens.STOP) {
                kind = Tokens.STOP;
                return;
            }
            placeBefore = place;
            at++;
            boolean there = at >= 0 && at < tokens.size && at < Tokens.MOST;
            kind = there ? tokens.kinds[at] : Tokens.STOP;
            place = there ? tokens.places[at] : NONE;
            value = there ? tokens.values[at] : 0;
        }

        /** Takes the token at hand as one that is open from now on. */
        private void takeOpening() {
            if (mayOpen()) {
                open++;
                take(kind);
            }
        }

        private boolean mayOpen() {
            if (open + signs < MOST_OPEN) {
                return true;
            }
            tooDeep = true;
            kind = Tokens.STOP;
            return false;
        }

        private void takeClosing(int wanted) {
            open--;
            take(wanted);
        }

        /** Takes a name: its number. */
        private int takeName() {
            int number = value;
            take(Tokens.NAME);
            return number;
        }

        private void nameNode(int parent) {
            tree.add(parent, Kind.NAME, place, value);
            take(Tokens.NAME);
        }

        private boolean startsBlock() {
            return kind == Word.FUNCTION || kind == Word.FUNCTION_BLOCK || kind == Word.PROGRAM;
        }

        private static int endOfBlock(int word) {
            switch (word) {
                case Word.FUNCTION: return Word.END_FUNCTION;
                case Word.FUNCTION_BLOCK: return Word.END_FUNCTION_BLOCK;
                default: return Word.END_PROGRAM;
            }
        }

        private static int kindOfBlock(int word) {
            switch (word) {
                case Word.FUNCTION: return Kind.FUNCTION;
                case Word.FUNCTION_BLOCK: return Kind.FUNCTION_BLOCK;
                default: return Kind.PROGRAM;
            }
        }

        private int blockHead(int parent) {
            int word = kind;
            int wordPlace = place;
            take(word);
            int block = tree.add(parent, kindOfBlock(word), wordPlace, takeName());
            if (word == Word.FUNCTION) {
                take(':');
                simpleType(block);
            }
            return block;
        }

        private boolean startsSection() {
            return kind == Word.VAR || kind == Word.VAR_INPUT || kind == Word.VAR_OUTPUT;
        }

        private void sections(int parent) {
            for (int turn = 0; turn < MOST_BYTES && startsSection(); turn++) {
                int section = tree.add(parent, Kind.SECTION, place, kind - Word.VAR);
                take(kind);
                for (int inner = 0; inner < MOST_BYTES && kind == Tokens.NAME; inner++) {
                    declaration(section);
                }
                take(Word.END_VAR);
            }
        }

        private void declaration(int parent) {
            int declaration = tree.add(parent, Kind.DECLARATION, place, 0);
            nameNode(declaration);
            for (int turn = 0; turn < MOST_BYTES && kind == ','; turn++) {
                take(',');
                nameNode(declaration);
            }
            if (kind == Word.AT) {
                take(Word.AT);
                tree.add(declaration, Kind.PLACE, place, value);
                take(Tokens.PLACE);
            }
            take(':');
            type(declaration);
            if (kind == Sign.ASSIGN) {
                take(Sign.ASSIGN);
                constant(declaration);
            }
            take(';');
        }

        private void type(int parent) {
            if (kind == Tokens.NAME) {
                tree.add(parent, Kind.BLOCK_TYPE, place, value);
                take(Tokens.NAME);
            } else if (kind == Word.ARRAY) {
                int array = tree.add(parent, Kind.ARRAY, place, 0);
                take(Word.ARRAY);
                take('[');
                constant(array);
                take(Sign.RANGE);
                constant(array);
                take(']');
                take(Word.OF);
                simpleType(array);
            } else {
                simpleType(parent);
            }
        }

        private void simpleType(int parent) {
            if (kind == Word.BOOL || kind == Word.INT || kind == Word.DINT) {
                tree.add(parent, Kind.TYPE, place, kind - Word.BOOL);
                take(kind);
            } else {
                kind = Tokens.STOP;
            }
        }

        private boolean startsConstant() {
            return kind == '-' || kind == Tokens.NUMBER || kind == Word.TRUE || kind == Word.FALSE;
        }

        private void constant(int parent) {
            if (kind == '-') {
                int minusPlace = place;
                take('-');
                tree.add(parent, Kind.NUMBER, minusPlace, -value);
                take(Tokens.NUMBER);
            } else {
                literal(parent);
            }
        }

        private void literal(int parent) {
            if (kind == Tokens.NUMBER) {
                tree.add(parent, Kind.NUMBER, place, value);
                take(Tokens.NUMBER);
            } else if (kind == Word.TRUE || kind == Word.FALSE) {
                tree.add(parent, Kind.TRUTH, place, kind == Word.TRUE ? 1 : 0);
                take(kind);
            } else {
                kind = Tokens.STOP;
            }
        }

        /** A body of statements, right behind the token that is its place. */
        private void body(int parent) {
            int body = tree.add(parent, Kind.BODY, placeBefore, 0);
            boolean more = true;
            for (int turn = 0; more && turn < MOST_BYTES; turn++) {
                more = statement(body);
            }
        }

        /** False, taking nothing, if no statement begins here. */
        private boolean statement(int parent) {
            switch (kind) {
                case Tokens.NAME:
                    int namePlace = place;
                    int name = takeName();
                    if (kind == '(') {
                        invocation(parent, namePlace, name);
                    } else {
                        assignment(parent, namePlace, name);
                    }
                    break;
                case Word.IF:
                    ifStatement(parent);
                    break;
                case Word.CASE:
                    caseStatement(parent);
                    break;
                case Word.FOR:
                    forStatement(parent);
                    break;
                case Word.EXIT:
                    tree.add(parent, Kind.EXIT, place, 0);
                    take(Word.EXIT);
                    break;
                case Word.RETURN:
                    tree.add(parent, Kind.RETURN, place, 0);
                    take(Word.RETURN);
                    break;
                case ';':
                    break;
                default:
                    return false;
            }
            take(';');
            return true;
        }

        private void assignment(int parent, int namePlace, int name) {
            int target = tree.size;
            if (kind == '[') {
                int element = tree.add(parent, Kind.ELEMENT, namePlace, name);
                takeOpening();
                outermostExpression(element);
                takeClosing(']');
            } else {
                tree.add(parent, Kind.NAME, namePlace, name);
            }
            tree.wrap(target, Kind.ASSIGNMENT, place, 0);
            take(Sign.ASSIGN);
            outermostExpression(target);
        }

        private void invocation(int parent, int namePlace, int name) {
            int invocation = tree.add(parent, Kind.INVOCATION, namePlace, name);
            takeOpening();
            boolean more = kind != ')';
            for (int turn = 0; more && turn < MOST_BYTES; turn++) {
                int parameterPlace = place;
                int parameter = tree.add(invocation, Kind.PARAMETER, parameterPlace, takeName());
                take(Sign.ASSIGN);
                outermostExpression(parameter);
                more = takeComma();
            }
            takeClosing(')');
        }

        /** Whether one was there. */
        private boolean takeComma() {
            if (kind != ',') {
                return false;
            }
            take(',');
            return true;
        }

        private void ifStatement(int parent) {
            int node = tree.add(parent, Kind.IF, place, 0);
            takeOpening();
            outermostExpression(node);
            take(Word.THEN);
            body(node);
            for (int turn = 0; turn < MOST_BYTES && kind == Word.ELSIF; turn++) {
                take(Word.ELSIF);
                outermostExpression(node);
                take(Word.THEN);
                body(node);
            }
            if (kind == Word.ELSE) {
                take(Word.ELSE);
                body(node);
            }
            takeClosing(Word.END_IF);
        }

        private void caseStatement(int parent) {
            int node = tree.add(parent, Kind.CASE, place, 0);
            takeOpening();
            outermostExpression(node);
            take(Word.OF);
            for (int turn = 0; turn < MOST_BYTES && startsConstant(); turn++) {
                int choice = tree.add(node, Kind.CHOICE, place, 0);
                ranges(choice);
                take(':');
                body(choice);
            }
            if (kind == Word.ELSE) {
                take(Word.ELSE);
                body(node);
            }
            takeClosing(Word.END_CASE);
        }

        private void ranges(int choice) {
            boolean more = true;
            for (int turn = 0; more && turn < MOST_BYTES; turn++) {
                int range = tree.add(choice, Kind.RANGE, place, 0);
                constant(range);
                if (kind == Sign.RANGE) {
                    take(Sign.RANGE);
                    constant(range);
                }
                more = takeComma();
            }
        }

        private void forStatement(int parent) {
            int wordPlace = place;
            takeOpening();
            int node = tree.add(parent, Kind.FOR, wordPlace, takeName());
            take(Sign.ASSIGN);
            constant(node);
            take(Word.TO);
            constant(node);
            if (kind == Word.BY) {
                take(Word.BY);
                constant(node);
            }
            take(Word.DO);
            body(node);
            takeClosing(Word.END_FOR);
        }

        /** One that no other stands around: its signs are open until it ends. */
        private void outermostExpression(int parent) {
            expression(parent, 0);
            signs = 0;
        }

        /** Operands with signs between that bind at least as close as told. */
        private void expression(int parent, int least) {
            int first = tree.size;
            operand(parent);
            for (int turn = 0; turn < MOST_BYTES; turn++) {
                int operation = Sign.operation(kind);
                int binding = Sign.binding(operation);
                if (binding < least || !mayOpen()) {
                    return;
                }
                tree.wrap(first, Kind.TWO, place, operation);
                signs++;
                take(kind);
                expression(first, binding + 1);
            }
        }

        private void operand(int parent) {
            switch (kind) {
                case '-':
                case Word.NOT:
                    int one = tree.add(parent, Kind.ONE, place, kind == Word.NOT ? 1 : 0);
                    takeOpening();
                    operand(one);
                    open--;
                    break;
                case '(':
                    takeOpening();
                    expression(parent, 0);
                    takeClosing(')');
                    break;
                case Tokens.NAME:
                    operandByName(parent);
                    break;
                default:
                    literal(parent);
            }
        }

        private void operandByName(int parent) {
            int namePlace = place;
            int name = takeName();
            switch (kind) {
                case '[':
                    int element = tree.add(parent, Kind.ELEMENT, namePlace, name);
                    takeOpening();
                    expression(element, 0);
                    takeClosing(']');
                    break;
                case '.':
                    take('.');
                    nameNode(tree.add(parent, Kind.OUTPUT, namePlace, name));
                    break;
                case '(':
                    int call = tree.add(parent, Kind.CALL, namePlace, name);
                    takeOpening();
                    boolean more = kind != ')';
                    for (int turn = 0; more && turn < MOST_BYTES; turn++) {
                        expression(call, 0);
                        more = takeComma();
                    }
                    takeClosing(')');
                    break;
                default:
                    tree.add(parent, Kind.NAME, namePlace, name);
            }
        }

        private void ladder(int parent) {
            int ladder = tree.add(parent, Kind.LADDER, place, 0);
            take(Word.LADDER);
            for (int turn = 0; turn < MOST_BYTES && kind == Word.RUNG; turn++) {
                int rung = tree.add(ladder, Kind.RUNG, place, 0);
                take(Word.RUNG);
                row(rung);
                for (int inner = 0; inner < MOST_BYTES && startsCell(); inner++) {
                    row(rung);
                }
                take(Word.END_RUNG);
            }
            take(Word.END_LADDER);
        }

        private boolean startsCell() {
            switch (kind) {
                case Tokens.NAME:
                case '/':
                case '>':
                case '<':
                case '-':
                case '*':
                case '(':
                    return true;
                default:
                    return false;
            }
        }

        private void row(int parent) {
            int row = tree.add(parent, Kind.ROW, place, 0);
            cell(row);
            for (int turn = 0; turn < MOST_BYTES && (kind == '|' || startsCell()); turn++) {
                if (kind == '|') {
                    tree.add(row, Kind.LINK, place, 0);
                    take('|');
                }
                cell(row);
            }
            take(';');
        }

        private void cell(int parent) {
            switch (kind) {
                case '-':
                    tree.add(parent, Kind.WIRE, place, 0);
                    take('-');
                    break;
                case '*':
                    tree.add(parent, Kind.GAP, place, 0);
                    take('*');
                    break;
                case '(':
                    coil(parent);
                    break;
                case '/':
                case '>':
                case '<':
                case Tokens.NAME:
                    contact(parent);
                    break;
                default:
                    kind = Tokens.STOP;
            }
        }

        private void contact(int parent) {
            int sign = contactValue(kind);
            int contact = tree.add(parent, Kind.CONTACT, place, sign);
            if (sign != 0) {
                take(kind);
            }
            int namePlace = place;
            int name = takeName();
            if (kind == '.') {
                take('.');
                nameNode(tree.add(contact, Kind.OUTPUT, namePlace, name));
            } else {
                tree.add(contact, Kind.NAME, namePlace, name);
            }
        }

        private static int contactValue(int kind) {
            switch (kind) {
                case '/': return 1;
                case '>': return 2;
                case '<': return 3;
                default: return 0;
            }
        }

        private void coil(int parent) {
            int bracketPlace = place;
            take('(');
            int sign = coilValue(kind);
            int coil = tree.add(parent, Kind.COIL, bracketPlace, sign);
            if (sign != 0) {
                take(kind);
            }
            nameNode(coil);
            take(')');
        }

        private static int coilValue(int kind) {
            switch (kind) {
                case '/': return 1;
                case '+': return 2;
                case '-': return 3;
                default: return 0;
            }
        }
    }

    /** Writes the tree: what stands before each node, what begins it, and what ends it behind its children. */
    private static final class Writer {
        private final Tree tree;
        private final Names names;
        private final Bytes out;

        Writer(Tree tree, Names names, Bytes out) {
            this.tree = tree;
            this.names = names;
            this.out = out;
        }

        void writeTree() {
            out.cut(0);
            int last = NONE;
            for (int n = 0; n < tree.size; n++) {
                finishUpTo(last, tree.parent(n));
                separate(n);
                begin(n);
                last = n;
            }
            finishUpTo(last, NONE);
        }

        /** Ends a node and those above it, but for one to which more children come and those above that. */
        private void finishUpTo(int from, int kept) {
            int n = from;
            for (int turn = 0; turn < MOST_NODES && n != kept && n != NONE; turn++) {
                finish(n);
                n = tree.parent(n);
            }
        }

        /** What stands between a node and what came before it below the same parent. */
        private void separate(int n) {
            int rank = tree.rank(n);
            int parent = tree.parent(n);
            int above = tree.kind(parent);
            if (above == Kind.ARRAY && rank == 2) {
                token(']');
            }
            if (above == Kind.CASE && rank == 1) {
                token(Word.OF);
            }
            if (above == Kind.TWO && rank == 1) {
                token(Sign.between(tree.value(parent)));
            }
            token(separator(above, tree.kind(n), rank));
        }

        private static int separator(int above, int kind, int rank) {
            switch (above) {
                case Kind.DECLARATION: return separatorInDeclaration(kind, rank);
                case Kind.ARRAY: return rank == 0 ? NONE : rank == 1 ? Sign.RANGE : Word.OF;
                case Kind.IF: return separatorInIf(kind, rank);
                case Kind.CASE: return kind == Kind.BODY ? Word.ELSE : NONE;
                case Kind.CHOICE: return kind == Kind.BODY ? ':' : behindFirst(rank, ',');
                case Kind.FOR: return separatorInFor(kind, rank);
                case Kind.INVOCATION:
                case Kind.CALL: return behindFirst(rank, ',');
                case Kind.ASSIGNMENT: return behindFirst(rank, Sign.ASSIGN);
                case Kind.RANGE: return behindFirst(rank, Sign.RANGE);
                default: return NONE;
            }
        }

        private static int behindFirst(int rank, int kind) {
            return rank > 0 ? kind : NONE;
        }

        private static int separatorInDeclaration(int kind, int rank) {
            switch (kind) {
                case Kind.NAME: return behindFirst(rank, ',');
                case Kind.PLACE: return Word.AT;
                case Kind.NUMBER:
                case Kind.TRUTH: return Sign.ASSIGN;
                default: return ':';
            }
        }

        private static int separatorInIf(int kind, int rank) {
            if (rank % 2 == 1) {
                return Word.THEN;
            }
            return behindFirst(rank, kind == Kind.BODY ? Word.ELSE : Word.ELSIF);
        }

        private static int separatorInFor(int kind, int rank) {
            if (kind == Kind.BODY) {
                return Word.DO;
            }
            return behindFirst(rank, rank == 1 ? Word.TO : Word.BY);
        }

        private void begin(int n) {
            int kind = tree.kind(n);
            int value = tree.value(n);
            token(firstToken(kind, value));
            if (kind == Kind.TWO && isBracketed(n)) {
                token('(');
            }
            if (bearsName(kind)) {
                word(Word.COUNT + value);
            }
            if (kind == Kind.NUMBER) {
                number(value);
            }
            if (kind == Kind.PLACE) {
                place(value);
            }
            token(nextToken(kind, value));
        }

        /** The word or sign that a node begins with, or NONE. */
        private static int firstToken(int kind, int value) {
            switch (kind) {
                case Kind.FUNCTION: return Word.FUNCTION;
                case Kind.FUNCTION_BLOCK: return Word.FUNCTION_BLOCK;
                case Kind.PROGRAM: return Word.PROGRAM;
                case Kind.SECTION: return Word.VAR + value;
                case Kind.TYPE: return Word.BOOL + value;
                case Kind.ARRAY: return Word.ARRAY;
                case Kind.IF: return Word.IF;
                case Kind.CASE: return Word.CASE;
                case Kind.FOR: return Word.FOR;
                case Kind.EXIT: return Word.EXIT;
                case Kind.RETURN: return Word.RETURN;
                case Kind.LADDER: return Word.LADDER;
                case Kind.RUNG: return Word.RUNG;
                case Kind.CONTACT: return contactSign(value);
                case Kind.WIRE: return '-';
                case Kind.GAP: return '*';
                case Kind.COIL: return '(';
                case Kind.LINK: return '|';
                case Kind.TRUTH: return value == 1 ? Word.TRUE : Word.FALSE;
                case Kind.ONE: return value == 1 ? Word.NOT : '-';
                default: return NONE;
            }
        }

        private static int contactSign(int value) {
            switch (value) {
                case 1: return '/';
                case 2: return '>';
                case 3: return '<';
                default: return NONE;
            }
        }

        private static int coilSign(int value) {
            switch (value) {
                case 1: return '/';
                case 2: return '+';
                case 3: return '-';
                default: return NONE;
            }
        }

        private static boolean bearsName(int kind) {
            switch (kind) {
                case Kind.FUNCTION:
                case Kind.FUNCTION_BLOCK:
                case Kind.PROGRAM:
                case Kind.NAME:
                case Kind.BLOCK_TYPE:
                case Kind.INVOCATION:
                case Kind.PARAMETER:
                case Kind.FOR:
                case Kind.ELEMENT:
                case Kind.OUTPUT:
                case Kind.CALL:
                    return true;
                default:
                    return false;
            }
        }

        /** What stands behind a node's first token and name, before its children, or NONE. */
        private static int nextToken(int kind, int value) {
            switch (kind) {
                case Kind.FUNCTION: return ':';
                case Kind.ARRAY:
                case Kind.ELEMENT: return '[';
                case Kind.INVOCATION:
                case Kind.CALL: return '(';
                case Kind.PARAMETER:
                case Kind.FOR: return Sign.ASSIGN;
                case Kind.COIL: return coilSign(value);
                case Kind.OUTPUT: return '.';
                default: return NONE;
            }
        }

        /** Whether a TWO would be read as another tree without brackets. */
        private boolean isBracketed(int n) {
            int parent = tree.parent(n);
            if (tree.kind(parent) != Kind.TWO) {
                return tree.kind(parent) == Kind.ONE;
            }
            int own = Sign.binding(tree.value(n));
            int above = Sign.binding(tree.value(parent));
            return above > own || above == own && tree.rank(n) == 1;
        }

        private void finish(int n) {
            int kind = tree.kind(n);
            if (kind == Kind.CASE && tree.children(n) == 1) {
                // No child came that OF would have stood before.
                token(Word.OF);
            }
            if (kind == Kind.TWO && isBracketed(n)) {
                token(')');
            }
            token(lastToken(kind));
            if (endsBySemicolon(kind)) {
                token(';');
            }
        }

        /** What stands behind a node's children, but for a semicolon, or NONE. */
        private static int lastToken(int kind) {
            switch (kind) {
                case Kind.FUNCTION: return Word.END_FUNCTION;
                case Kind.FUNCTION_BLOCK: return Word.END_FUNCTION_BLOCK;
                case Kind.PROGRAM: return Word.END_PROGRAM;
                case Kind.SECTION: return Word.END_VAR;
                case Kind.IF: return Word.END_IF;
                case Kind.CASE: return Word.END_CASE;
                case Kind.FOR: return Word.END_FOR;
                case Kind.LADDER: return Word.END_LADDER;
                case Kind.RUNG: return Word.END_RUNG;
                case Kind.INVOCATION:
                case Kind.CALL:
                case Kind.COIL: return ')';
                case Kind.ELEMENT: return ']';
                default: return NONE;
            }
        }

        private static boolean endsBySemicolon(int kind) {
            switch (kind) {
                case Kind.DECLARATION:
                case Kind.ASSIGNMENT:
                case Kind.INVOCATION:
                case Kind.IF:
                case Kind.CASE:
                case Kind.FOR:
                case Kind.EXIT:
                case Kind.RETURN:
                case Kind.ROW:
                    return true;
                default:
                    return false;
            }
        }

        /** A word or a sign; nothing for NONE. */
        private void token(int kind) {
            if (kind >= Word.FIRST && kind < Word.FIRST + Word.COUNT) {
                word(kind - Word.FIRST);
            } else if (kind > 255) {
                out.put(kind >> 8);
                out.put(kind & 255);
            } else if (kind >= 0) {
                out.put(kind);
            }
        }

        /** A word or a name, by its number among both. */
        private void word(int id) {
            part();
            for (int k = 0; k < MOST_NAME_BYTES; k++) {
                int letter = names.letterOf(id, k);
                if (letter == NONE) {
                    return;
                }
                out.put(letter);
            }
        }

        /** A blank behind a token that would be read as one with the word or number that comes. */
        private void part() {
            if (isNameByte(out.get(out.size - 1))) {
                out.put(' ');
            }
        }

        private void number(int value) {
            if (value < 0) {
                token('-');
            }
            part();
            digits(Math.abs(value));
        }

        private void place(int value) {
            int row = value >> 8;
            int inSize = row < FIRST_WORD_ROW ? row : row - FIRST_WORD_ROW;
            token('%');
            out.put(inSize == 0 ? 'I' : inSize == 1 ? 'Q' : 'M');
            out.put(row < FIRST_WORD_ROW ? 'X' : 'W');
            digits(value & 255);
        }

        private void digits(int value) {
            for (int power = 1000000000; power > 0; power /= 10) {
                if (value >= power || power == 1) {
                    out.put('0' + value / power % 10);
                }
            }
        }
    }
}
