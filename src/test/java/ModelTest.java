import java.util.ArrayList;
import java.util.Arrays;
import java.util.List;
import java.util.Random;

/** Promises 6 to 10 and 12 on texts made by chance (always the same ones), against Model. */
public final class ModelTest {
    private static final String[] NAMES = {"a", "B", "Tank", "t", "T1", "_x", "end_iff", "x_1", "MS",
        "abcdefghijklmnopqrstuvwxyz012345", "If1", "T_"};
    private static final String[] NUMBERS = {"0", "1", "7", "007", "2147483647", "16#0", "16#7fFFffFF", "016#a", "2#1",
        "002#0101", "T#0MS", "t#5ms", "T#3h", "T#596H", "t#35791M", "T#2147483S", "T#2147483647MS", "10", "16", "2"};
    private static final String[] PLACES = {"%IX0", "%qx255", "%Mx007", "%iw63", "%QW1", "%mw0", "%MX99"};
    private static final String[] BAD = {"@", "#", "(*", "(*)", "$", "\u0000", "\u00e4", "2147483648", "16#80000000",
        "16#", "16#G", "2#2", "2#12", "3#1", "T#", "T#5", "T#5X", "T#5MSS", "t#1h30m", "T#600H", "T#2147483648MS",
        "12a", "1_", "99999999999999999999", "4294967312#1", "%IX256", "%IW64", "%IX", "%AX1", "%IB1", "%",
        "%IX1a", "%IX 1", "%MW4294967296", "abcdefghijklmnopqrstuvwxyz0123456", "T #5MS", "!", "x#1",
        "_______________________________________________________________________", "END_FUNCTION_BLOCKEND_FUNCTION_BL"};
    private static final String[] BLANKS = {" ", "\n", "\t", "\r", "(**)", "(* x *)", "(***)", " (*(*)", "(*) *)",
        "  "};

    private static final Due due = new Due();
    private static final Grammar grammar = new Grammar();
    private static Random random = new Random(20261115);
    private static int read;
    private static final int[] faults = new int[8];

    public static void main(String[] args) {
        int texts = args.length > 0 ? Integer.parseInt(args[0]) : 3000;
        if (args.length > 1) {
            random = new Random(Long.parseLong(args[1]));
        }
        for (int i = 0; i < texts; i++) {
            List<String> tokens = grammar.some(random, random.nextInt(4) == 0 ? 200 : 40);
            compare(textOf(tokens));
            compare(textOf(spoilt(tokens)));
            compare(cut(spoiltBytes(textOf(tokens))));
            compare(textOf(deepTokens()));
        }
        System.out.println(read + " texts read; by faults " + Arrays.toString(faults));
        due.is("texts that are read", read > texts ? 1 : 0, 1);
        for (int fault = 1; fault < faults.length; fault++) {
            due.is("texts with fault " + fault, faults[fault] > texts / 100 ? 1 : 0, 1);
        }
        due.end();
    }

    private static void compare(String text) {
        if (text.length() > 8192) {
            return;
        }
        Model model = new Model(text);
        Probe probe = new Probe(text);
        due.is(text + "\nread()", probe.answer(), model.answer());
        due.is(text + "\nthe tree", probe.tree(), model.treeLines());
        due.is(text + "\nthe names", probe.namesInOrder(), model.nameLines());
        String written = probe.written();
        due.is(text + "\nwhat is written", written, model.written());
        if (model.fault == 0 && written.length() <= 8192) {
            read++;
            Probe again = new Probe(written);
            due.is(text + "\nread again", withoutPlaces(again.tree()), withoutPlaces(probe.tree()));
            due.is(text + "\nnames again", again.namesInOrder(), probe.namesInOrder());
            due.is(text + "\nwritten again", again.written(), written);
        }
        faults[model.fault]++;
    }

    private static String withoutPlaces(String tree) {
        return tree.replaceAll("(?m)^(\\d+) \\d+ ", "$1 ");
    }

    private static String one(String[] from) {
        return from[random.nextInt(from.length)];
    }

    private static String textOf(List<String> tokens) {
        StringBuilder text = new StringBuilder();
        boolean dense = random.nextBoolean();
        for (String symbol : tokens) {
            String token = spelt(symbol);
            boolean must = text.length() > 0 && Character.isLetterOrDigit(text.charAt(text.length() - 1))
                || text.length() > 0 && text.charAt(text.length() - 1) == '_';
            if (must || !dense && random.nextInt(3) == 0) {
                text.append(one(BLANKS));
            }
            text.append(token);
        }
        return text.toString();
    }

    private static String spelt(String symbol) {
        switch (symbol) {
            case "name": return one(NAMES);
            case "number": return one(NUMBERS);
            case "place": return one(PLACES);
            case "bad": return one(BAD);
            default:
        }
        if (symbol.startsWith("'")) {
            return symbol.substring(1, symbol.length() - 1);
        }
        return random.nextInt(4) == 0 ? symbol.toLowerCase() : symbol;
    }

    private static List<String> spoilt(List<String> tokens) {
        List<String> changed = new ArrayList<>(tokens);
        List<String> others = grammar.some(random, 40);
        others.addAll(Model.WORDS);
        add(others, "bad name number place '(' ')' '[' ']' '..' '.' ';' ':' ':=' ',' '-' '|'");
        for (int i = random.nextInt(2); i < 2 && !changed.isEmpty(); i++) {
            int where = random.nextInt(changed.size());
            String other = others.get(random.nextInt(others.size()));
            switch (random.nextInt(4)) {
                case 0: changed.remove(where); break;
                case 1: changed.set(where, other); break;
                case 2: changed.add(where, other); break;
                default: changed.set(where, "bad");
            }
        }
        return changed;
    }

    private static String spoiltBytes(String text) {
        StringBuilder changed = new StringBuilder(text);
        for (int i = random.nextInt(3); i < 3 && changed.length() > 0; i++) {
            int where = random.nextInt(changed.length());
            char other = (char) (random.nextInt(4) == 0 ? random.nextInt(256) : 32 + random.nextInt(96));
            if (random.nextInt(3) == 0) {
                changed.deleteCharAt(where);
            } else {
                changed.setCharAt(where, other);
            }
        }
        return changed.toString();
    }

    private static String cut(String text) {
        return random.nextInt(3) == 0 ? text.substring(0, random.nextInt(text.length() + 1)) : text;
    }

    /** Statements in statements and expressions in expressions, to about as many as may be open. */
    private static List<String> deepTokens() {
        List<String> tokens = new ArrayList<>();
        tokens.add("PROGRAM");
        tokens.add("name");
        int most = 50 + random.nextInt(50);
        int statements = random.nextInt(3) == 0 ? random.nextInt(most) : random.nextInt(4);
        deepStatement(tokens, statements, most - statements);
        deepStatement(tokens, 0, 30 + random.nextInt(60));
        tokens.add("END_PROGRAM");
        return tokens;
    }

    private static void add(List<String> tokens, String symbols) {
        for (String symbol : symbols.split(" ")) {
            tokens.add(symbol);
        }
    }

    private static void deepStatement(List<String> tokens, int statements, int signs) {
        if (statements == 0) {
            innermostStatement(tokens, signs);
            return;
        }
        switch (random.nextInt(5)) {
            case 0:
                add(tokens, "FOR name ':=' number TO '-' number DO");
                deepStatement(tokens, statements - 1, signs);
                add(tokens, "END_FOR ';'");
                break;
            case 1:
                add(tokens, "CASE name '+' name OF '-' number ':'");
                deepStatement(tokens, statements - 1, signs);
                add(tokens, "END_CASE ';'");
                break;
            case 2:
                add(tokens, "IF NOT name THEN ELSE");
                deepStatement(tokens, statements - 1, signs);
                add(tokens, "END_IF ';'");
                break;
            case 3:
                add(tokens, "IF name THEN ';' ELSIF '(' name ')' THEN");
                deepStatement(tokens, statements - 1, signs);
                add(tokens, "END_IF ';' name '(' ')' ';'");
                break;
            default:
                add(tokens, "CASE name OF ELSE");
                deepStatement(tokens, statements - 1, signs);
                add(tokens, "END_CASE ';'");
        }
    }

    private static void innermostStatement(List<String> tokens, int signs) {
        switch (random.nextInt(4)) {
            case 0:
                add(tokens, "name '('");
                for (int i = random.nextInt(3); i < 3; i++) {
                    add(tokens, "name ':='");
                    deepExpression(tokens, signs - 1);
                    add(tokens, i == 2 ? "')' ';'" : "','");
                }
                break;
            case 1:
                add(tokens, "name '['");
                deepExpression(tokens, signs - 1);
                add(tokens, "']' ':='");
                deepExpression(tokens, signs);
                add(tokens, "';'");
                break;
            case 2:
                add(tokens, "IF");
                deepExpression(tokens, signs - 1);
                add(tokens, "THEN RETURN ';' END_IF ';'");
                break;
            default:
                add(tokens, "name ':='");
                deepExpression(tokens, signs);
                add(tokens, "';'");
        }
    }

    /** Opens about so many; what is closed on the way leaves room for more. */
    private static void deepExpression(List<String> tokens, int signs) {
        String[] between = {"OR", "XOR", "AND", "'&'", "'='", "'<>'", "'<'", "'>='", "'+'", "'-'", "'*'", "MOD"};
        if (signs <= 0) {
            add(tokens, new String[] {"name", "number", "TRUE", "name '.' name"}[random.nextInt(4)]);
            return;
        }
        int part = random.nextInt(signs);
        switch (random.nextInt(8)) {
            case 0:
                add(tokens, "'('");
                deepExpression(tokens, signs - 1);
                add(tokens, "')'");
                break;
            case 1:
                add(tokens, random.nextBoolean() ? "'-'" : "NOT '('");
                boolean bracket = tokens.get(tokens.size() - 1).equals("'('");
                deepExpression(tokens, signs - (bracket ? 2 : 1));
                if (bracket) {
                    add(tokens, "')'");
                }
                break;
            case 2:
                add(tokens, "name '['");
                deepExpression(tokens, signs - 1);
                add(tokens, "']'");
                break;
            case 3:
                add(tokens, "name '('");
                deepExpression(tokens, part);
                add(tokens, "','");
                deepExpression(tokens, signs - 1 - part);
                add(tokens, "')'");
                break;
            case 4:
                add(tokens, "name '(' ')'");
                add(tokens, one(between));
                deepExpression(tokens, signs - 1);
                break;
            default:
                deepExpression(tokens, part);
                add(tokens, one(between));
                deepExpression(tokens, signs - 1 - part);
        }
    }
}
