import java.util.ArrayList;
import java.util.List;

/** Promises 6 to 12 at the brim: the longest texts, and those of most tokens, nodes, names and written bytes. */
public final class BrimTest {
    private static final int MOST = 8192;
    private static final Due due = new Due();

    public static void main(String[] args) {
        mostNodes();
        mostNames();
        mostTokens();
        mostWritten();
        longestTokens();
        largeOperandsBeforeSigns();
        signsBehindManyNodes();
        due.end();
    }

    /** As many of a part as there is room for. */
    private static String filled(String before, String part, String behind) {
        int times = (MOST - before.length() - behind.length()) / part.length();
        String text = before + part.repeat(times) + behind;
        return text + " ".repeat(MOST - text.length());
    }

    private static int times(String text, String part) {
        return (text.length() - text.replace(part, "").length()) / part.length();
    }

    private static void mostNodes() {
        String text = filled("PROGRAM P CASE A OF ", "1:", "END_CASE;END_PROGRAM");
        int choices = times(text, "1:");
        Probe probe = new Probe(text);
        due.is("choices: read()", probe.answer(), "read");
        due.is("choices: nodes", probe.nodes(), 5 + 4 * choices);
        due.is("choices: the last node", probe.node(4 + 4 * choices, 0), 11);
        due.is("choices: its parent", probe.node(4 + 4 * choices, 3), 1 + 4 * choices);
        due.is("choices: children", probe.node(3, 4), 1 + choices);
        due.is("choices: written", probe.written(), text.trim());

        text = filled("PROGRAM P LADDER RUNG ", "A;", "END_RUNG END_LADDER END_PROGRAM");
        probe = new Probe(text);
        due.is("rows: nodes", probe.nodes(), 4 + 3 * times(text, "A;"));
        due.is("rows: written", probe.written(), text.trim());

        text = filled("PROGRAM P LADDER RUNG ", "A-", ";END_RUNG END_LADDER END_PROGRAM");
        probe = new Probe(text);
        due.is("cells: nodes", probe.nodes(), 5 + 3 * times(text, "A-"));
        due.is("cells: written", probe.written(), text.trim());
    }

    /** All names of one and two bytes, and of three as many as there is room for. */
    private static List<String> shortestNames(int room) {
        String letters = "ABCDEFGHIJKLMNOPQRSTUVWXYZ_";
        String behind = letters + "0123456789";
        List<String> all = new ArrayList<>();
        for (String letter : letters.split("")) {
            all.add(letter);
        }
        int left = room - 2 * all.size();
        for (int i = 0; i < all.size() && left > 4; i++) {
            for (int k = 0; k < behind.length() && left > 4; k++) {
                String name = all.get(i) + behind.charAt(k);
                all.add(name);
                left -= Model.WORDS.contains(name) ? 0 : name.length() + 1;
            }
        }
        all.removeAll(Model.WORDS);
        return all;
    }

    private static void mostNames() {
        String before = "PROGRAM A VAR ";
        String end = ":A;END_VAR END_PROGRAM";
        List<String> names = shortestNames(MOST - before.length() - end.length());
        String text = before + String.join(",", names) + end;
        due.is("names: nearly no room is left", text.length() > MOST - 5 && text.length() <= MOST ? 1 : 0, 1);
        Probe probe = new Probe(text.toLowerCase());
        due.is("names: read()", probe.answer(), "read");
        due.is("names", probe.names(), names.size());
        due.is("names in order", probe.namesInOrder(), String.join("\n", names) + "\n");
        due.is("names: written", probe.written(), text);
        namesThatComeAgain(text, names.size());
    }

    /** No read() leaves less room for names to the next one, with a fault or without. */
    private static void namesThatComeAgain(String text, int names) {
        Calls calls = new Calls().withText(text);
        for (int i = 0; i < 20; i++) {
            calls = calls.then(x -> x.change(8, 'Q')).read().then(x -> x.change(8, '?')).read();
            due.is("names that came again, with a fault", calls.answer(), 1);
        }
        Calls last = calls.then(x -> x.change(8, 'Q')).read();
        due.is("names that came again", last.answer(), 0);
        due.is("names that came again: how many", last.then(x -> x.count(3)).answer(), names);
        due.is("names that came again: the last one", last.then(x -> x.nameByte(names - 1, 2)).answer() > 0 ? 1 : 0, 1);
    }

    private static void mostTokens() {
        String signs = ";".repeat(MOST);
        due.is("signs alone", new Probe(signs).answer(), "fault 6 at 0");
        String text = filled("PROGRAM P ", ";", "END_PROGRAM");
        due.is("semicolons", new Probe(text).answer(), "read");
        due.is("semicolons: nodes", new Probe(text).nodes(), 3);
        due.is("semicolons: written", new Probe(text).written(), "PROGRAM P END_PROGRAM");
        due.is("no end", new Probe(filled("PROGRAM P ", ";", "")).answer(), "fault 6 at 8192");
        due.is("the last byte", new Probe("PROGRAM P " + ";".repeat(MOST - 11) + "@").answer(), "fault 1 at 8191");
        due.is("a comment to the end", new Probe("(*" + "*".repeat(MOST - 3) + ")").answer(), "read");
        due.is("a comment without end", new Probe("(*" + "*".repeat(MOST - 2)).answer(), "fault 2 at 0");
        due.is("many comments", new Probe("(**)".repeat(MOST / 4)).answer(), "read");
    }

    private static void mostWritten() {
        String text = filled("PROGRAM P CASE A OF T#3H", ",T#3H", ":END_CASE;END_PROGRAM");
        Probe probe = new Probe(text);
        due.is("times: written", probe.written(), text.trim().replace("T#3H", "10800000"));
        text = filled("PROGRAM P LADDER RUNG ", "AND_", ";END_RUNG END_LADDER END_PROGRAM");
        due.is("a long name", new Probe(text).answer(), "fault 3 at 22");
        // The bracket is open, too, so the sixtieth sign is refused.
        text = filled("PROGRAM P F(A:=1", "&1", ");END_PROGRAM");
        due.is("many signs", new Probe(text).answer(), "fault 7 at " + (16 + 59 * 2));
    }

    private static void longestTokens() {
        due.is("a name", new Probe("A".repeat(MOST)).answer(), "fault 3 at 0");
        due.is("a number", new Probe("9".repeat(MOST)).answer(), "fault 4 at 0");
        due.is("a zero", new Probe("0".repeat(MOST)).answer(), "fault 6 at 0");
        due.is("a place", new Probe("%IX" + "0".repeat(MOST - 3)).answer(), "fault 6 at 0");
        due.is("a large place", new Probe("%IX" + "9".repeat(MOST - 3)).answer(), "fault 5 at 0");
        due.is("a time", new Probe("T#" + "0".repeat(MOST - 3) + "H").answer(), "fault 6 at 0");
        due.is("a large time", new Probe("T#" + "9".repeat(MOST - 3) + "H").answer(), "fault 4 at 0");
        due.is("a base", new Probe("0".repeat(MOST - 4) + "16#1").answer(), "fault 6 at 0");
        due.is("a large base", new Probe("9".repeat(MOST - 4) + "16#1").answer(), "fault 4 at 0");
        Probe probe = new Probe("PROGRAM P X:=" + "0".repeat(MOST - 34) + "123456789;END_PROGRAM");
        due.is("zeros before a number", probe.answer(), "read");
        due.is("zeros before a number", probe.node(5, 2), 123456789);
    }

    /** Each sign behind it moves all nodes of what is before it. */
    private static void largeOperandsBeforeSigns() {
        String text = filled("PROGRAM P X:=F(1", ",1", ")" + "+A".repeat(60) + ";END_PROGRAM");
        Probe probe = new Probe(text);
        int operands = times(text, "1");
        due.is("a large call: nodes", probe.nodes(), 5 + 120 + 1 + operands);
        due.is("a large call: the call", probe.node(65, 0), 34);
        due.is("a large call: its children", probe.node(65, 4), operands);
        due.is("a large call: the first sign's value", probe.node(5, 2), 9);
        due.is("a large call: the last node", probe.node(5 + 120 + operands, 3), 5);
        due.is("a large call: written", probe.written(), text.trim());
    }

    /** Nodes are moved at the end of a tree as large as may be. */
    private static void signsBehindManyNodes() {
        String end = "X[A*B+C]:=1*2+3=4;END_CASE;END_PROGRAM";
        String text = filled("PROGRAM P CASE A OF ", "1:", end);
        Probe probe = new Probe(text);
        int choices = times(text, "1:");
        due.is("signs behind many nodes: read()", probe.answer(), "read");
        due.is("signs behind many nodes: nodes", probe.nodes(), 5 + 4 * choices + 14);
        StringBuilder kinds = new StringBuilder();
        for (int n = probe.nodes() - 14; n < probe.nodes(); n++) {
            kinds.append(probe.node(n, 0)).append(' ').append(probe.node(n, 3) - probe.nodes()).append(' ');
        }
        due.is("signs behind many nodes: the last ones", kinds.toString(), "12 -15 32 -14 35 -13 35 -12 6 -11 6 -11 "
            + "6 -12 35 -14 35 -7 35 -6 30 -5 30 -5 30 -6 30 -7 ");
        due.is("signs behind many nodes: written", probe.written(), text.trim());
    }
}
