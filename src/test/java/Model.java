import java.math.BigInteger;
import java.util.ArrayList;
import java.util.Arrays;
import java.util.HashSet;
import java.util.List;
import java.util.Locale;
import java.util.Set;
import java.util.regex.Matcher;
import java.util.regex.Pattern;

/**
 * What the document asks for a text, made another way than ControlText makes it: tokens by patterns, faults by the
 * grammar as data, the tree as objects with a method for each level of the expressions.
 */
final class Model {
    static final Set<String> WORDS = new HashSet<>(Arrays.asList(("FUNCTION END_FUNCTION FUNCTION_BLOCK "
        + "END_FUNCTION_BLOCK PROGRAM END_PROGRAM VAR VAR_INPUT VAR_OUTPUT END_VAR AT BOOL INT DINT ARRAY OF IF THEN "
        + "ELSIF ELSE END_IF CASE END_CASE FOR TO BY DO END_FOR EXIT RETURN OR XOR AND MOD NOT TRUE FALSE LADDER "
        + "END_LADDER RUNG END_RUNG").split(" ")));
    private static final Pattern BLANK = Pattern.compile("[\\t\\n\\r ]+|\\(\\*.*?\\*\\)", Pattern.DOTALL);
    private static final Pattern NUMBER = Pattern.compile("[Tt]#[0-9]+(?:[Mm][Ss]|[SsMmHh])|0*16#[0-9A-Fa-f]+"
        + "|0*2#[01]+|[0-9]+(?!#)");
    private static final Pattern PLACE = Pattern.compile("%([IiQqMm][XxWw])([0-9]+)");
    private static final Pattern NAME = Pattern.compile("[A-Za-z_][A-Za-z_0-9]*");
    private static final Pattern SIGN = Pattern.compile(":=|\\.\\.|<=|>=|<>|[()\\[\\],;:.+*/=<>&|-]");
    private static final Grammar GRAMMAR = new Grammar();

    private record Token(String symbol, int place, int value) { }

    private static final class Node {
        final int kind;
        final int place;
        final int value;
        final List<Node> kids = new ArrayList<>();

        Node(int kind, int place, int value, Node... kids) {
            this.kind = kind;
            this.place = place;
            this.value = value;
            this.kids.addAll(Arrays.asList(kids));
        }
    }

    private static final class TooDeep extends RuntimeException {
        private static final long serialVersionUID = 1;
        final int place;

        TooDeep(int place) {
            this.place = place;
        }
    }

    int fault;
    int place = -1;
    final List<String> names = new ArrayList<>();
    private Node root;

    private final String text;
    private final List<Token> tokens = new ArrayList<>();
    private int badFault;
    private int at;
    private final List<Token> opened = new ArrayList<>();
    private List<Token> signs = new ArrayList<>();

    Model(String text) {
        this.text = text;
        scan();
        List<String> symbols = new ArrayList<>();
        for (Token token : tokens) {
            symbols.add(token.symbol);
        }
        int end = badFault != 0 ? place : text.length();
        int refused = GRAMMAR.firstRefused(symbols);
        if (refused >= 0 && refused < tokens.size()) {
            fault = 6;
            place = tokens.get(refused).place;
        } else if (badFault != 0) {
            fault = badFault;
        } else if (refused >= 0) {
            fault = 6;
            place = text.length();
        }
        // What can come may still be too deep; tokens behind a refused one are never looked at.
        List<Token> good = new ArrayList<>(refused >= 0 ? tokens.subList(0, refused) : tokens);
        tokens.clear();
        tokens.addAll(good);
        tokens.add(new Token("end", end, 0));
        try {
            root = tree();
        } catch (TooDeep deep) {
            fault = 7;
            place = deep.place;
        } catch (IllegalStateException ended) {
            if (fault == 0) {
                throw ended;
            }
        }
        if (fault != 0) {
            root = null;
            names.clear();
        }
    }

    // Tokens.

    private void scan() {
        int i = 0;
        while (i < text.length()) {
            Matcher blank = BLANK.matcher(text).region(i, text.length());
            if (blank.lookingAt()) {
                i = blank.end();
                continue;
            }
            if (text.startsWith("(*", i)) {
                bad(2, i);
                return;
            }
            i = scanToken(i);
            if (badFault != 0) {
                return;
            }
        }
    }

    private void bad(int which, int where) {
        badFault = which;
        place = where;
    }

    private int scanToken(int i) {
        char c = text.charAt(i);
        boolean time = (c == 'T' || c == 't') && text.startsWith("#", i + 1);
        if (time || c >= '0' && c <= '9') {
            return scanNumber(i);
        }
        if (c == '%') {
            return scanPlace(i);
        }
        Matcher name = NAME.matcher(text).region(i, text.length());
        if (name.lookingAt()) {
            return scanName(i, name.group().toUpperCase(Locale.ROOT));
        }
        Matcher sign = SIGN.matcher(text).region(i, text.length());
        if (!sign.lookingAt()) {
            bad(1, i);
            return i;
        }
        tokens.add(new Token("'" + sign.group() + "'", i, 0));
        return sign.end();
    }

    private boolean runsOn(int i) {
        return i < text.length() && NAME.matcher("_" + text.charAt(i)).matches();
    }

    private int scanName(int i, String name) {
        if (name.length() > 32) {
            bad(3, i);
        } else if (WORDS.contains(name)) {
            tokens.add(new Token(name, i, 0));
        } else {
            if (!names.contains(name)) {
                names.add(name);
            }
            tokens.add(new Token("name", i, names.indexOf(name)));
        }
        return i + name.length();
    }

    private int scanNumber(int i) {
        Matcher number = NUMBER.matcher(text).region(i, text.length());
        if (!number.lookingAt() || runsOn(number.end())) {
            bad(4, i);
            return i;
        }
        BigInteger value = meaning(number.group().toUpperCase(Locale.ROOT));
        if (value.bitLength() > 31) {
            bad(4, i);
            return i;
        }
        tokens.add(new Token("number", i, value.intValueExact()));
        return number.end();
    }

    private static BigInteger meaning(String number) {
        int mark = number.indexOf('#');
        if (number.startsWith("T#")) {
            String digits = number.replaceAll("[^0-9]", "");
            String unit = number.substring(2 + digits.length());
            long times = unit.equals("MS") ? 1 : unit.equals("S") ? 1000 : unit.equals("M") ? 60000 : 3600000;
            return new BigInteger(digits).multiply(BigInteger.valueOf(times));
        }
        if (mark < 0) {
            return new BigInteger(number);
        }
        return new BigInteger(number.substring(mark + 1), Integer.parseInt(number.substring(0, mark)));
    }

    private int scanPlace(int i) {
        Matcher found = PLACE.matcher(text).region(i, text.length());
        if (!found.lookingAt() || runsOn(found.end())) {
            bad(5, i);
            return i;
        }
        int row = Arrays.asList("IX", "QX", "MX", "IW", "QW", "MW").indexOf(found.group(1).toUpperCase(Locale.ROOT));
        BigInteger number = new BigInteger(found.group(2));
        if (number.compareTo(BigInteger.valueOf(row < 3 ? 255 : 63)) > 0) {
            bad(5, i);
            return i;
        }
        tokens.add(new Token("place", i, 256 * row + number.intValue()));
        return found.end();
    }

    // The tree. The grammar has let all tokens pass, so they are only told apart, not tested.

    private Token now() {
        return tokens.get(at);
    }

    private boolean is(String... symbols) {
        return Arrays.asList(symbols).contains(now().symbol);
    }

    private Token next() {
        if (is("end")) {
            throw new IllegalStateException("the tokens end");
        }
        return tokens.get(at++);
    }

    private Token nextOpen(List<Token> row) {
        if (is("end")) {
            throw new IllegalStateException("the tokens end");
        }
        if (opened.size() + signs.size() == 60) {
            throw new TooDeep(now().place);
        }
        row.add(now());
        return next();
    }

    private void close(Token token) {
        opened.remove(opened.lastIndexOf(token));
    }

    private Node tree() {
        Node all = new Node(0, 0, 0);
        while (!is("end")) {
            all.kids.add(block());
        }
        return all;
    }

    private Node block() {
        Token word = next();
        int kind = Arrays.asList("", "FUNCTION", "FUNCTION_BLOCK", "PROGRAM").indexOf(word.symbol);
        Token before = next();
        Node block = new Node(kind, word.place, before.value);
        if (kind == 1) {
            next();
            before = now();
            block.kids.add(type());
        }
        while (is("VAR", "VAR_INPUT", "VAR_OUTPUT")) {
            int which = Arrays.asList("VAR", "VAR_INPUT", "VAR_OUTPUT").indexOf(now().symbol);
            Node section = new Node(4, next().place, which);
            while (!is("END_VAR")) {
                section.kids.add(declaration());
            }
            before = next();
            block.kids.add(section);
        }
        block.kids.add(is("LADDER") ? ladder() : body(before));
        next();
        return block;
    }

    private Node named(int kind, Node... kids) {
        return new Node(kind, now().place, next().value, kids);
    }

    private Node declaration() {
        Node declaration = new Node(5, now().place, 0, named(6));
        while (is("','")) {
            next();
            declaration.kids.add(named(6));
        }
        if (is("AT")) {
            next();
            declaration.kids.add(named(7));
        }
        next();
        declaration.kids.add(type());
        if (is("':='")) {
            next();
            declaration.kids.add(constant());
        }
        next();
        return declaration;
    }

    private Node type() {
        if (is("name")) {
            return named(10);
        }
        int simple = Arrays.asList("BOOL", "INT", "DINT").indexOf(now().symbol);
        Token word = next();
        if (simple >= 0) {
            return new Node(8, word.place, simple);
        }
        Node array = new Node(9, word.place, 0);
        next();
        array.kids.add(constant());
        next();
        array.kids.add(constant());
        next();
        next();
        array.kids.add(type());
        return array;
    }

    private Node constant() {
        Token first = next();
        if (first.symbol.equals("'-'")) {
            return new Node(30, first.place, -next().value);
        }
        return first.symbol.equals("number") ? new Node(30, first.place, first.value)
            : new Node(31, first.place, first.symbol.equals("TRUE") ? 1 : 0);
    }

    private Node body(Token before) {
        Node body = new Node(11, before.place, 0);
        while (is("';'", "name", "IF", "CASE", "FOR", "EXIT", "RETURN")) {
            if (is("';'")) {
                next();
            } else {
                body.kids.add(statement());
                next();
            }
        }
        return body;
    }

    private Node statement() {
        switch (now().symbol) {
            case "IF": return ifStatement();
            case "CASE": return caseStatement();
            case "FOR": return forStatement();
            case "EXIT": return new Node(20, next().place, 0);
            case "RETURN": return new Node(21, next().place, 0);
            default:
        }
        Token name = next();
        if (is("'('")) {
            return invocation(name);
        }
        Node target = new Node(6, name.place, name.value);
        if (is("'['")) {
            Token bracket = nextOpen(opened);
            target = new Node(32, name.place, name.value, outermost());
            next();
            close(bracket);
        }
        return new Node(12, next().place, 0, target, outermost());
    }

    private Node invocation(Token name) {
        Token bracket = nextOpen(opened);
        Node node = new Node(13, name.place, name.value);
        while (!is("')'")) {
            if (is("','")) {
                next();
            }
            Token parameter = next();
            next();
            node.kids.add(new Node(14, parameter.place, parameter.value, outermost()));
        }
        next();
        close(bracket);
        return node;
    }

    private Node ifStatement() {
        Token word = nextOpen(opened);
        Node node = new Node(15, word.place, 0);
        do {
            if (is("ELSIF")) {
                next();
            }
            node.kids.add(outermost());
            node.kids.add(body(next()));
        } while (is("ELSIF"));
        if (is("ELSE")) {
            node.kids.add(body(next()));
        }
        next();
        close(word);
        return node;
    }

    private Node caseStatement() {
        Token word = nextOpen(opened);
        Node node = new Node(16, word.place, 0, outermost());
        next();
        while (!is("ELSE", "END_CASE")) {
            Node choice = new Node(17, now().place, 0, range());
            while (is("','")) {
                next();
                choice.kids.add(range());
            }
            choice.kids.add(body(next()));
            node.kids.add(choice);
        }
        if (is("ELSE")) {
            node.kids.add(body(next()));
        }
        next();
        close(word);
        return node;
    }

    private Node range() {
        Node range = new Node(18, now().place, 0, constant());
        if (is("'..'")) {
            next();
            range.kids.add(constant());
        }
        return range;
    }

    private Node forStatement() {
        Token word = nextOpen(opened);
        Node node = new Node(19, word.place, next().value);
        while (!is("DO")) {
            next();
            node.kids.add(constant());
        }
        node.kids.add(body(next()));
        next();
        close(word);
        return node;
    }

    private static final String[][] LEVELS = {
        {"OR"}, {"XOR"}, {"AND", "'&'"}, {"'='", "'<>'"}, {"'<'", "'>'", "'<='", "'>='"}, {"'+'", "'-'"},
        {"'*'", "'/'", "MOD"},
    };
    private static final List<String> OPERATIONS = Arrays.asList("OR", "XOR", "'&'", "'='", "'<>'", "'<'", "'>'",
        "'<='", "'>='", "'+'", "'-'", "'*'", "'/'", "MOD");

    private Node outermost() {
        Node node = level(0);
        signs = new ArrayList<>();
        return node;
    }

    private Node level(int level) {
        if (level == LEVELS.length) {
            return operand();
        }
        Node left = level(level + 1);
        while (is(LEVELS[level])) {
            int operation = OPERATIONS.indexOf(is("AND") ? "'&'" : now().symbol);
            int where = nextOpen(signs).place;
            left = new Node(35, where, operation, left, level(level + 1));
        }
        return left;
    }

    private Node operand() {
        if (is("number", "TRUE", "FALSE")) {
            return constant();
        }
        if (is("'-'", "NOT")) {
            Token sign = nextOpen(opened);
            Node one = new Node(36, sign.place, sign.symbol.equals("NOT") ? 1 : 0, operand());
            close(sign);
            return one;
        }
        if (is("'('")) {
            Token bracket = nextOpen(opened);
            Node inner = level(0);
            next();
            close(bracket);
            return inner;
        }
        Token name = next();
        if (is("'.'")) {
            next();
            return new Node(33, name.place, name.value, named(6));
        }
        if (!is("'['", "'('")) {
            return new Node(6, name.place, name.value);
        }
        Node node = new Node(is("'['") ? 32 : 34, name.place, name.value);
        Token bracket = nextOpen(opened);
        while (!is("']'", "')'")) {
            if (is("','")) {
                next();
            }
            node.kids.add(level(0));
        }
        next();
        close(bracket);
        return node;
    }

    private Node ladder() {
        Node ladder = new Node(22, next().place, 0);
        while (!is("END_LADDER")) {
            Node rung = new Node(23, next().place, 0);
            while (!is("END_RUNG")) {
                Node row = new Node(24, now().place, 0);
                while (!is("';'")) {
                    row.kids.add(cell());
                }
                next();
                rung.kids.add(row);
            }
            next();
            ladder.kids.add(rung);
        }
        next();
        return ladder;
    }

    private Node cell() {
        if (is("'-'", "'*'", "'|'")) {
            int kind = is("'-'") ? 26 : is("'*'") ? 27 : 29;
            return new Node(kind, next().place, 0);
        }
        int first = now().place;
        if (is("'('")) {
            next();
            int sign = is("name") ? 0 : 1 + Arrays.asList("'/'", "'+'", "'-'").indexOf(next().symbol);
            Node coil = new Node(28, first, sign, named(6));
            next();
            return coil;
        }
        int sign = is("name") ? 0 : 1 + Arrays.asList("'/'", "'>'", "'<'").indexOf(next().symbol);
        Node name = named(6);
        if (is("'.'")) {
            next();
            name = new Node(33, name.place, name.value, named(6));
        }
        return new Node(25, first, sign, name);
    }

    // What is compared.

    String answer() {
        return fault == 0 ? "read" : "fault " + fault + " at " + place;
    }

    /** A line for each node: kind, place, value, parent, children. */
    String treeLines() {
        StringBuilder all = new StringBuilder();
        if (root != null) {
            lines(root, -1, new int[1], all);
        }
        return all.toString();
    }

    private static void lines(Node node, int parent, int[] count, StringBuilder all) {
        int own = count[0]++;
        all.append(node.kind).append(' ').append(node.place).append(' ').append(node.value).append(' ')
            .append(parent).append(' ').append(node.kids.size()).append('\n');
        for (Node kid : node.kids) {
            lines(kid, own, count, all);
        }
    }

    String nameLines() {
        StringBuilder all = new StringBuilder();
        for (String name : names) {
            all.append(name).append('\n');
        }
        return all.toString();
    }

    String written() {
        if (root == null) {
            return "";
        }
        StringBuilder all = new StringBuilder();
        for (String token : words(root).trim().split("\u0001+")) {
            boolean parted = all.length() > 0 && !token.isEmpty() && runs(all.charAt(all.length() - 1))
                && runs(token.charAt(0));
            all.append(parted ? " " : "").append(token);
        }
        return all.toString();
    }

    private static boolean runs(char c) {
        return Character.isLetterOrDigit(c) || c == '_';
    }

    /** Its tokens, each between bytes 1. */
    private String words(Node node) {
        return "\u0001" + plain(node).replace(' ', '\u0001') + "\u0001";
    }

    private String all(List<Node> nodes, String between) {
        List<String> parts = new ArrayList<>();
        for (Node node : nodes) {
            parts.add(words(node));
        }
        return String.join(" " + between + " ", parts);
    }

    private String kid(Node node, int i) {
        return words(node.kids.get(i));
    }

    private String plain(Node node) {
        List<Node> kids = node.kids;
        int last = kids.size() - 1;
        String name = node.value >= 0 && node.value < names.size() ? names.get(node.value) : "";
        switch (node.kind) {
            case 0: case 11: return all(kids, "");
            case 1: return "FUNCTION " + name + " : " + all(kids, "") + " END_FUNCTION";
            case 2: return "FUNCTION_BLOCK " + name + " " + all(kids, "") + " END_FUNCTION_BLOCK";
            case 3: return "PROGRAM " + name + " " + all(kids, "") + " END_PROGRAM";
            case 4: return new String[] {"VAR ", "VAR_INPUT ", "VAR_OUTPUT "}[node.value] + all(kids, "") + " END_VAR";
            case 5: return declarationText(kids);
            case 6: case 10: return name;
            case 7: return "%" + new String[] {"IX", "QX", "MX", "IW", "QW", "MW"}[node.value / 256]
                + node.value % 256;
            case 8: return new String[] {"BOOL", "INT", "DINT"}[node.value];
            case 9: return "ARRAY [ " + kid(node, 0) + " .. " + kid(node, 1) + " ] OF " + kid(node, 2);
            case 12: return all(kids, ":=") + " ;";
            case 13: return name + " ( " + all(kids, ",") + " ) ;";
            case 14: return name + " := " + kid(node, 0);
            case 15: return ifText(kids);
            case 16: return caseText(kids);
            case 17: return all(kids.subList(0, last), ",") + " : " + kid(node, last);
            case 18: return all(kids, "..");
            case 19: return "FOR " + name + " := " + kid(node, 0) + " TO " + kid(node, 1)
                + (last == 3 ? " BY " + kid(node, 2) : "") + " DO " + kid(node, last) + " END_FOR ;";
            case 20: return "EXIT ;";
            case 21: return "RETURN ;";
            case 22: return "LADDER " + all(kids, "") + " END_LADDER";
            case 23: return "RUNG " + all(kids, "") + " END_RUNG";
            case 24: return all(kids, "") + " ;";
            case 25: return " /><".charAt(node.value) + " " + kid(node, 0);
            case 26: return "-";
            case 27: return "*";
            case 28: return "( " + " /+-".charAt(node.value) + " " + kid(node, 0) + " )";
            case 29: return "|";
            case 30: return node.value < 0 ? "- " + -node.value : "" + node.value;
            case 31: return node.value == 1 ? "TRUE" : "FALSE";
            case 32: return name + " [ " + kid(node, 0) + " ]";
            case 33: return name + " . " + kid(node, 0);
            case 34: return name + " ( " + all(kids, ",") + " )";
            case 35: return twoText(node);
            default: return (node.value == 1 ? "NOT " : "- ") + (kids.get(0).kind == 35 ? "( " + kid(node, 0) + " )"
                : kid(node, 0));
        }
    }

    private String declarationText(List<Node> kids) {
        StringBuilder all = new StringBuilder();
        for (Node kid : kids) {
            boolean first = all.length() == 0;
            String before = kid.kind == 6 ? first ? "" : "," : kid.kind == 7 ? "AT" : kid.kind >= 30 ? ":=" : ":";
            all.append(" ").append(before).append(" ").append(words(kid));
        }
        return all + " ;";
    }

    private String ifText(List<Node> kids) {
        StringBuilder all = new StringBuilder();
        int i = 0;
        for (; i + 1 < kids.size(); i += 2) {
            all.append(i == 0 ? "IF " : " ELSIF ").append(words(kids.get(i))).append(" THEN ");
            all.append(words(kids.get(i + 1)));
        }
        return all + (i < kids.size() ? " ELSE " + words(kids.get(i)) : "") + " END_IF ;";
    }

    private String caseText(List<Node> kids) {
        StringBuilder all = new StringBuilder("CASE " + words(kids.get(0)) + " OF ");
        for (Node kid : kids.subList(1, kids.size())) {
            all.append(kid.kind == 11 ? " ELSE " : "").append(words(kid));
        }
        return all + " END_CASE ;";
    }

    private static int closeness(Node two) {
        for (int level = 0; level < LEVELS.length; level++) {
            if (Arrays.asList(LEVELS[level]).contains(OPERATIONS.get(two.value))) {
                return level;
            }
        }
        throw new IllegalStateException("no such operation");
    }

    private String twoText(Node two) {
        Node left = two.kids.get(0);
        Node right = two.kids.get(1);
        boolean leftIn = left.kind == 35 && closeness(two) > closeness(left);
        boolean rightIn = right.kind == 35 && closeness(two) >= closeness(right);
        return (leftIn ? "( " + words(left) + " )" : words(left)) + " "
            + OPERATIONS.get(two.value).replace("'", "") + " "
            + (rightIn ? "( " + words(right) + " )" : words(right));
    }
}
