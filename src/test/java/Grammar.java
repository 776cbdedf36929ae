import java.util.ArrayList;
import java.util.HashMap;
import java.util.HashSet;
import java.util.LinkedHashSet;
import java.util.List;
import java.util.Map;
import java.util.Random;
import java.util.Set;
import java.util.regex.MatchResult;
import java.util.regex.Pattern;

/**
 * The document's grammar as it stands there, used as data: to tell the first token that can't come (by Earley's
 * way, which knows nothing of how ControlText reads) and to make texts by chance.
 */
final class Grammar {
    private static final String RULES = String.join("\n",
        "text: {block}",
        "block: FUNCTION name ':' simple {section} body END_FUNCTION"
            + " | FUNCTION_BLOCK name {section} body END_FUNCTION_BLOCK | PROGRAM name {section} body END_PROGRAM",
        "section: (VAR | VAR_INPUT | VAR_OUTPUT) {declaration} END_VAR",
        "declaration: name {',' name} [AT place] ':' type [':=' constant] ';'",
        "simple: BOOL | INT | DINT",
        "type: simple | ARRAY '[' constant '..' constant ']' OF simple | name",
        "constant: ['-'] number | TRUE | FALSE",
        "body: {statement} | LADDER {rung} END_LADDER",
        "statement: ';' | name ':=' expression ';' | name '[' expression ']' ':=' expression ';'"
            + " | name '(' [parameter {',' parameter}] ')' ';'"
            + " | IF expression THEN {statement} {ELSIF expression THEN {statement}} [ELSE {statement}] END_IF ';'"
            + " | CASE expression OF {choice} [ELSE {statement}] END_CASE ';'"
            + " | FOR name ':=' constant TO constant [BY constant] DO {statement} END_FOR ';'"
            + " | EXIT ';' | RETURN ';'",
        "parameter: name ':=' expression",
        "choice: range {',' range} ':' {statement}",
        "range: constant ['..' constant]",
        "expression: operand {between operand}",
        "between: OR | XOR | AND | '&' | '=' | '<>' | '<' | '>' | '<=' | '>=' | '+' | '-' | '*' | '/' | MOD",
        "operand: '-' operand | NOT operand | number | TRUE | FALSE | '(' expression ')' | name"
            + " | name '[' expression ']' | name '.' name | name '(' [expression {',' expression}] ')'",
        "rung: RUNG row {row} END_RUNG",
        "row: cell {['|'] cell} ';'",
        "cell: ['/' | '>' | '<'] name ['.' name] | '-' | '*' | '(' ['/' | '+' | '-'] name ')'");

    private static final Pattern PIECE = Pattern.compile("'[^']+'|\\w+|[\\[\\]{}()|]");

    /** By name of a rule (also of those made for brackets): its ways, each a row of symbols. */
    private final Map<String, List<List<String>>> ways = new HashMap<>();
    private final Set<String> canBeNothing = new HashSet<>();
    private String[] pieces;
    private int at;

    Grammar() {
        for (String rule : RULES.split("\n")) {
            int colon = rule.indexOf(':');
            pieces = PIECE.matcher(rule.substring(colon + 1)).results().map(MatchResult::group)
                .toArray(String[]::new);
            at = 0;
            ways.put(rule.substring(0, colon), alternatives(rule.substring(0, colon)));
        }
        for (int turn = 0; turn < ways.size(); turn++) {
            ways.forEach((name, all) -> {
                for (List<String> way : all) {
                    if (canBeNothing.containsAll(way)) {
                        canBeNothing.add(name);
                    }
                }
            });
        }
    }

    private List<List<String>> alternatives(String rule) {
        List<List<String>> all = new ArrayList<>();
        all.add(new ArrayList<>());
        for (; at < pieces.length && !"]})".contains(pieces[at]); at++) {
            List<String> way = all.get(all.size() - 1);
            if (pieces[at].equals("|")) {
                all.add(new ArrayList<>());
            } else if ("[{(".contains(pieces[at])) {
                way.add(inBrackets(rule));
            } else {
                way.add(pieces[at]);
            }
        }
        return all;
    }

    /** A rule of its own for what is in brackets: its name. */
    private String inBrackets(String rule) {
        String bracket = pieces[at];
        String name = rule + "#" + at + bracket;
        at++;
        List<List<String>> inner = alternatives(rule);
        if (bracket.equals("{")) {
            for (List<String> way : inner) {
                way.add(name);
            }
        }
        if (!bracket.equals("(")) {
            inner.add(new ArrayList<>());
        }
        ways.put(name, inner);
        return name;
    }

    private record Item(String rule, List<String> way, int dot, int origin) {
        String next() {
            return dot < way.size() ? way.get(dot) : null;
        }

        Item moved() {
            return new Item(rule, way, dot + 1, origin);
        }
    }

    /** The index of the first token that can't come, one behind the last if it ends too early, or -1. */
    int firstRefused(List<String> tokens) {
        List<Set<Item>> states = states(tokens);
        int taken = states.size() - 1;
        return taken == tokens.size() && canEnd(states.get(taken)) ? -1 : taken;
    }

    /** The tokens that can come behind these, and "end" if the text can end there. */
    Set<String> following(List<String> tokens) {
        List<Set<Item>> states = states(tokens);
        if (states.size() <= tokens.size()) {
            throw new IllegalArgumentException("these can't come themselves");
        }
        Set<String> all = new HashSet<>();
        for (Item item : states.get(tokens.size())) {
            if (item.next() != null && isToken(item.next())) {
                all.add(item.next());
            }
        }
        if (canEnd(states.get(tokens.size()))) {
            all.add("end");
        }
        return all;
    }

    private static boolean canEnd(Set<Item> state) {
        for (Item item : state) {
            if (item.rule.equals("text") && item.origin == 0 && item.next() == null) {
                return true;
            }
        }
        return false;
    }

    /** Before each token that can come, and behind the last of them. */
    private List<Set<Item>> states(List<String> tokens) {
        List<Set<Item>> states = new ArrayList<>();
        Set<Item> first = new LinkedHashSet<>();
        for (List<String> way : ways.get("text")) {
            first.add(new Item("text", way, 0, 0));
        }
        states.add(first);
        complete(states, 0);
        for (int i = 0; i < tokens.size(); i++) {
            Set<Item> following = new LinkedHashSet<>();
            for (Item item : states.get(i)) {
                if (tokens.get(i).equals(item.next())) {
                    following.add(item.moved());
                }
            }
            if (following.isEmpty()) {
                return states;
            }
            states.add(following);
            complete(states, i + 1);
        }
        return states;
    }

    private void complete(List<Set<Item>> states, int i) {
        List<Item> work = new ArrayList<>(states.get(i));
        Set<Item> here = states.get(i);
        for (int k = 0; k < work.size(); k++) {
            Item item = work.get(k);
            List<Item> found = new ArrayList<>();
            String next = item.next();
            if (next == null) {
                for (Item waiting : new ArrayList<>(states.get(item.origin))) {
                    if (item.rule.equals(waiting.next())) {
                        found.add(waiting.moved());
                    }
                }
            } else if (ways.containsKey(next)) {
                for (List<String> way : ways.get(next)) {
                    found.add(new Item(next, way, 0, i));
                }
                if (canBeNothing.contains(next)) {
                    found.add(item.moved());
                }
            }
            for (Item one : found) {
                if (here.add(one)) {
                    work.add(one);
                }
            }
        }
    }

    /** A row of tokens that the grammar has; with less budget left, the shorter ways are taken. */
    List<String> some(Random random, int budget) {
        List<String> tokens = new ArrayList<>();
        expand("text", random, budget, 0, tokens);
        return tokens;
    }

    private void expand(String symbol, Random random, int budget, int depth, List<String> tokens) {
        List<List<String>> all = ways.get(symbol);
        if (all == null) {
            tokens.add(symbol);
            return;
        }
        List<String> way = all.get(random.nextInt(all.size()));
        boolean repeats = symbol.endsWith("{");
        if (tokens.size() > budget || depth > 60) {
            way = shortest(all);
        } else if (repeats && random.nextInt(3) == 0) {
            way = all.get(0);
        }
        for (String part : way) {
            expand(part, random, budget, depth + (part.equals(symbol) && repeats ? 0 : 1), tokens);
        }
    }

    private List<String> shortest(List<List<String>> all) {
        List<String> best = all.get(0);
        for (List<String> way : all) {
            if (weight(way) < weight(best)) {
                best = way;
            }
        }
        return best;
    }

    private int weight(List<String> way) {
        int sum = 0;
        for (String part : way) {
            sum += !ways.containsKey(part) ? 1 : canBeNothing.contains(part) ? 0 : 2;
        }
        return sum;
    }

    /** Whether it is a token, and not the name of a rule. */
    boolean isToken(String symbol) {
        return !ways.containsKey(symbol);
    }
}
