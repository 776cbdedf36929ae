/** Promises 6 to 12 at the brim: the longest texts, and those of most tokens, nodes, names and written bytes. */
public final class BrimTest {
    private static final int MOST = 8192;
    private static final Due due = new Due();

    public static void main(String[] args) {
        mostNodes();
        mostNames();
        mostTokens();
        mostWritten();
        longestTokens();
        largeOperandsBeforeSigns();
        due.end();
    }

    /** As many of a part as there is room for. */
    private static String filled(String before, String part, String behind) {
        int times = (MOST - before.length() - behind.length()) / part.length();
        String text = before + part.repeat(times) + behind;
        return text + " ".repeat(MOST - text.length());
    }

    private static int times(String text, String part) {
        return (text.length() - text.replace(part, "").length()) / part.length();
    }

    private static void mostNodes() {
        String text = filled("PROGRAM P CASE A OF ", "1:", "END_CASE;END_PROGRAM");
        int choices = times(text, "1:");
        Probe probe = new Probe(text);
        due.is("choices: read()", probe.answer(), "read");
        due.is("choices: nodes", probe.nodes(), 5 + 4 * choices);
        due.is("choices: the last node", probe.node(4 + 4 * choices, 0), 11);
        due.is("choices: its parent", probe.node(4 + 4 * choices, 3), 1 + 4 * choices);
        due.is("choices: children", probe.node(3, 4), 1 + choices);
        due.is("choices: written", probe.written(), text.trim());

        text = filled("PROGRAM P LADDER RUNG ", "A;", "END_RUNG END_LADDER END_PROGRAM");
        probe = new Probe(text);
        due.is("rows: nodes", probe.nodes(), 4 + 3 * times(text, "A;"));
        due.is("rows: written", probe.written(), text.trim());

        text = filled("PROGRAM P LADDER RUNG ", "A-", ";END_RUNG END_LADDER END_PROGRAM");
        probe = new Probe(text);
        due.is("cells: nodes", probe.nodes(), 5 + 3 * times(text, "A-"));
        due.is("cells: written", probe.written(), text.trim());
    }

    private static void mostNames() {
        String letters = "ABCDEFGHIJKLMNOPQRSTUVWXYZ_";
        String behind = "0123456789" + letters;
        StringBuilder text = new StringBuilder("PROGRAM P VAR ");
        StringBuilder names = new StringBuilder("P\n");
        String end = "X:P;END_VAR END_PROGRAM";
        int count = 1;
        for (int i = 0; i < 27 * 37 * 37 && text.length() + end.length() + 4 <= MOST; i++) {
            String name = "" + letters.charAt(i % 27) + behind.charAt(i / 27 % 37) + behind.charAt(i / 27 / 37);
            if (!name.equals("INT") && !name.equals("VAR") && !name.equals("XOR") && !name.equals("FOR")) {
                text.append(i % 2 == 0 ? name : name.toLowerCase()).append(',');
                names.append(name).append('\n');
                count++;
            }
        }
        Probe probe = new Probe(text + end);
        due.is("names: read()", probe.answer(), "read");
        due.is("names", probe.names(), count + 1);
        due.is("names in order", probe.namesInOrder(), names + "X\n");
        due.is("names: written", probe.written(), (text + end).toUpperCase());
    }

    private static void mostTokens() {
        String signs = ";".repeat(MOST);
        due.is("signs alone", new Probe(signs).answer(), "fault 6 at 0");
        String text = filled("PROGRAM P ", ";", "END_PROGRAM");
        due.is("semicolons", new Probe(text).answer(), "read");
        due.is("semicolons: nodes", new Probe(text).nodes(), 3);
        due.is("semicolons: written", new Probe(text).written(), "PROGRAM P END_PROGRAM");
        due.is("no end", new Probe(filled("PROGRAM P ", ";", "")).answer(), "fault 6 at 8192");
        due.is("the last byte", new Probe("PROGRAM P " + ";".repeat(MOST - 11) + "@").answer(), "fault 1 at 8191");
        due.is("a comment to the end", new Probe("(*" + "*".repeat(MOST - 3) + ")").answer(), "read");
        due.is("a comment without end", new Probe("(*" + "*".repeat(MOST - 2)).answer(), "fault 2 at 0");
        due.is("many comments", new Probe("(**)".repeat(MOST / 4)).answer(), "read");
    }

    private static void mostWritten() {
        String text = filled("PROGRAM P CASE A OF T#3H", ",T#3H", ":END_CASE;END_PROGRAM");
        Probe probe = new Probe(text);
        due.is("times: written", probe.written(), text.trim().replace("T#3H", "10800000"));
        text = filled("PROGRAM P LADDER RUNG ", "AND_", ";END_RUNG END_LADDER END_PROGRAM");
        due.is("a long name", new Probe(text).answer(), "fault 3 at 22");
        // The bracket is open, too, so the sixtieth sign is refused.
        text = filled("PROGRAM P F(A:=1", "&1", ");END_PROGRAM");
        due.is("many signs", new Probe(text).answer(), "fault 7 at " + (16 + 59 * 2));
    }

    private static void longestTokens() {
        due.is("a name", new Probe("A".repeat(MOST)).answer(), "fault 3 at 0");
        due.is("a number", new Probe("9".repeat(MOST)).answer(), "fault 4 at 0");
        due.is("a zero", new Probe("0".repeat(MOST)).answer(), "fault 6 at 0");
        due.is("a place", new Probe("%IX" + "0".repeat(MOST - 3)).answer(), "fault 6 at 0");
        due.is("a large place", new Probe("%IX" + "9".repeat(MOST - 3)).answer(), "fault 5 at 0");
        due.is("a time", new Probe("T#" + "0".repeat(MOST - 3) + "H").answer(), "fault 6 at 0");
        due.is("a large time", new Probe("T#" + "9".repeat(MOST - 3) + "H").answer(), "fault 4 at 0");
        due.is("a base", new Probe("0".repeat(MOST - 4) + "16#1").answer(), "fault 6 at 0");
        due.is("a large base", new Probe("9".repeat(MOST - 4) + "16#1").answer(), "fault 4 at 0");
        Probe probe = new Probe("PROGRAM P X:=" + "0".repeat(MOST - 34) + "123456789;END_PROGRAM");
        due.is("zeros before a number", probe.answer(), "read");
        due.is("zeros before a number", probe.node(5, 2), 123456789);
    }

    /** Each sign behind it moves all nodes of what is before it. */
    private static void largeOperandsBeforeSigns() {
        String text = filled("PROGRAM P X:=F(1", ",1", ")" + "+A".repeat(60) + ";END_PROGRAM");
        Probe probe = new Probe(text);
        int operands = times(text, "1");
        due.is("a large call: nodes", probe.nodes(), 5 + 120 + 1 + operands);
        due.is("a large call: the call", probe.node(65, 0), 34);
        due.is("a large call: its children", probe.node(65, 4), operands);
        due.is("a large call: the first sign's value", probe.node(5, 2), 9);
        due.is("a large call: the last node", probe.node(5 + 120 + operands, 3), 5);
        due.is("a large call: written", probe.written(), text.trim());
    }
}
