/** Promises 6, 8 and 9, THE TREE: kinds, places, values, parents, children and names. */
public final class TreeTest {
    private static final Due due = new Due();

    public static void main(String[] args) {
        blocks();
        declarations();
        assignments();
        invocations();
        choices();
        loops();
        expressions();
        ladders();
        numbersOfNames();
        orderOfNodes();
        due.end();
    }

    /** Each line: kind, place, value, parent, children. */
    private static void tree(String text, String... lines) {
        Probe probe = new Probe(text);
        due.is(text + "\nread()", probe.answer(), "read");
        due.is(text + "\nthe tree", probe.tree(), String.join("\n", lines) + "\n");
    }

    private static void blocks() {
        tree("", "0 0 0 -1 0");
        tree("  (* *) ", "0 0 0 -1 0");
        //    0         1         2         3         4         5         6         7         8
        //    0123456789012345678901234567890123456789012345678901234567890123456789012345678901234567
        tree(" FUNCTION f : DINT END_FUNCTION FUNCTION_BLOCK g END_FUNCTION_BLOCK PROGRAM f END_PROGRAM",
            "0 0 0 -1 3",
            "1 1 0 0 2",
            "8 14 2 1 0",
            "11 14 0 1 0",
            "2 32 1 0 1",
            "11 47 0 4 0",
            "3 68 0 0 1",
            "11 76 0 6 0");
        tree("FUNCTION f:BOOL VAR END_VAR VAR_INPUT END_VAR VAR_OUTPUT END_VAR END_FUNCTION",
            "0 0 0 -1 1",
            "1 0 0 0 5",
            "8 11 0 1 0",
            "4 16 0 1 0",
            "4 28 1 1 0",
            "4 46 2 1 0",
            "11 57 0 1 0");
    }

    private static void declarations() {
        //    0         1         2         3         4         5         6
        //    0123456789012345678901234567890123456789012345678901234567890123456
        tree("PROGRAM p VAR a,b AT %qw2:ARRAY[-1..5]OF DINT:=-7;c:d;END_VAR END_PROGRAM",
            "0 0 0 -1 1",
            "3 0 0 0 2",
            "4 10 0 1 2",
            "5 14 0 2 5",
            "6 14 1 3 0",
            "6 16 2 3 0",
            "7 21 1026 3 0",
            "9 26 0 3 3",
            "30 32 -1 7 0",
            "30 36 5 7 0",
            "8 41 2 7 0",
            "30 47 -7 3 0",
            "5 50 0 2 2",
            "6 50 3 12 0",
            "10 52 4 12 0",
            "11 54 0 1 0");
        tree("PROGRAM p VAR a AT %IX1:INT:=FALSE;b:BOOL:=TRUE;c:INT:=-0;END_VAR END_PROGRAM",
            "0 0 0 -1 1",
            "3 0 0 0 2",
            "4 10 0 1 3",
            "5 14 0 2 4",
            "6 14 1 3 0",
            "7 19 1 3 0",
            "8 24 1 3 0",
            "31 29 0 3 0",
            "5 35 0 2 3",
            "6 35 2 8 0",
            "8 37 0 8 0",
            "31 43 1 8 0",
            "5 48 0 2 3",
            "6 48 3 12 0",
            "8 50 1 12 0",
            "30 55 0 12 0",
            "11 58 0 1 0");
    }

    private static void assignments() {
        //    0         1         2         3
        //    0123456789012345678901234567890123456789
        tree("PROGRAM p ;a:=1;;b[c+2] := d ;END_PROGRAM",
            "0 0 0 -1 1",
            "3 0 0 0 1",
            "11 8 0 1 2",
            "12 12 0 2 2",
            "6 11 1 3 0",
            "30 14 1 3 0",
            "12 24 0 2 2",
            "32 17 2 6 1",
            "35 20 9 7 2",
            "6 19 3 8 0",
            "30 21 2 8 0",
            "6 27 4 6 0");
    }

    private static void invocations() {
        //    0         1         2         3
        //    0123456789012345678901234567890123456789
        tree("PROGRAM p f();g(a:=1,b:=f(2));END_PROGRAM",
            "0 0 0 -1 1",
            "3 0 0 0 1",
            "11 8 0 1 2",
            "13 10 1 2 0",
            "13 14 2 2 2",
            "14 16 3 4 1",
            "30 19 1 5 0",
            "14 21 4 4 1",
            "34 24 1 7 1",
            "30 26 2 8 0");
    }

    private static void choices() {
        //    0         1         2         3         4         5         6
        //    0123456789012345678901234567890123456789012345678901234567890123456789
        tree("PROGRAM p IF a THEN EXIT;ELSIF b THEN ELSE ;RETURN;END_IF;END_PROGRAM",
            "0 0 0 -1 1",
            "3 0 0 0 1",
            "11 8 0 1 1",
            "15 10 0 2 5",
            "6 13 1 3 0",
            "11 15 0 3 1",
            "20 20 0 5 0",
            "6 31 2 3 0",
            "11 33 0 3 0",
            "11 38 0 3 1",
            "21 44 0 9 0");
        //    0         1         2         3         4         5         6
        //    0123456789012345678901234567890123456789012345678901234567890123456789
        tree("PROGRAM p CASE a OF -1..2,TRUE:x:=1; 7 : ELSE EXIT;END_CASE;END_PROGRAM",
            "0 0 0 -1 1",
            "3 0 0 0 1",
            "11 8 0 1 1",
            "16 10 0 2 4",
            "6 15 1 3 0",
            "17 20 0 3 3",
            "18 20 0 5 2",
            "30 20 -1 6 0",
            "30 24 2 6 0",
            "18 26 0 5 1",
            "31 26 1 9 0",
            "11 30 0 5 1",
            "12 32 0 11 2",
            "6 31 2 12 0",
            "30 34 1 12 0",
            "17 37 0 3 2",
            "18 37 0 15 1",
            "30 37 7 16 0",
            "11 39 0 15 0",
            "11 41 0 3 1",
            "20 46 0 19 0");
        tree("PROGRAM p CASE a OF END_CASE;END_PROGRAM",
            "0 0 0 -1 1",
            "3 0 0 0 1",
            "11 8 0 1 1",
            "16 10 0 2 1",
            "6 15 1 3 0");
    }

    private static void loops() {
        //    0         1         2         3         4         5         6
        //    0123456789012345678901234567890123456789012345678901234567890123456789
        tree("PROGRAM p FOR i:=1 TO -2 DO END_FOR;FOR j:=1 TO 5 BY -3 DO EXIT;END_FOR;END_PROGRAM",
            "0 0 0 -1 1",
            "3 0 0 0 1",
            "11 8 0 1 2",
            "19 10 1 2 3",
            "30 17 1 3 0",
            "30 22 -2 3 0",
            "11 25 0 3 0",
            "19 36 2 2 4",
            "30 43 1 7 0",
            "30 48 5 7 0",
            "30 53 -3 7 0",
            "11 56 0 7 1",
            "20 59 0 11 0");
    }

    /** The nodes of an expression, as they are behind a name and ":=". */
    private static void expression(String expression, String want) {
        String before = "PROGRAM p x:=";
        Probe probe = new Probe(before + expression + ";END_PROGRAM");
        due.is(expression, probe.answer(), "read");
        due.is(expression, nodes(probe, 5, before.length()), want);
        due.is(expression + ": nodes", probe.nodes(), lastBelow(probe, 5) + 1);
    }

    private static int lastBelow(Probe probe, int n) {
        int last = n;
        for (int child = 0; child < probe.node(n, 4); child++) {
            last = lastBelow(probe, last + 1);
        }
        return last;
    }

    /** kind@place=value(children), the place from the expression's beginning on. */
    private static String nodes(Probe probe, int n, int from) {
        StringBuilder all = new StringBuilder();
        all.append(probe.node(n, 0)).append('@').append(probe.node(n, 1) - from).append('=').append(probe.node(n, 2));
        int child = n + 1;
        for (int i = 0; i < probe.node(n, 4); i++) {
            all.append(i == 0 ? "(" : " ").append(nodes(probe, child, from));
            due.is("parent of " + child, probe.node(child, 3), n);
            child = lastBelow(probe, child) + 1;
        }
        return all.append(probe.node(n, 4) == 0 ? "" : ")").toString();
    }

    private static void expressions() {
        expression("5", "30@0=5");
        expression("TRUE", "31@0=1");
        expression("false", "31@0=0");
        expression("x", "6@0=1");
        expression("((y))", "6@2=2");
        expression("-5", "36@0=0(30@1=5)");
        expression("NOT y", "36@0=1(6@4=2)");
        expression("-NOT-y", "36@0=0(36@1=1(36@4=0(6@5=2)))");
        expression("x[y]", "32@0=1(6@2=2)");
        expression("x . y", "33@0=1(6@4=2)");
        expression("y()", "34@0=2");
        expression("y(1,2)", "34@0=2(30@2=1 30@4=2)");
        String[] signs = {"OR", "XOR", "AND", "=", "<>", "<", ">", "<=", ">=", "+", "-", "*", "/", "MOD"};
        for (int value = 0; value < signs.length; value++) {
            int right = 3 + signs[value].length();
            expression("x " + signs[value] + " y", "35@2=" + value + "(6@0=1 6@" + right + "=2)");
        }
        expression("x&y", "35@1=2(6@0=1 6@2=2)");
        expression("1-2-3", "35@3=10(35@1=10(30@0=1 30@2=2) 30@4=3)");
        expression("1-(2-3)", "35@1=10(30@0=1 35@4=10(30@3=2 30@5=3))");
        expression("1+2*3", "35@1=9(30@0=1 35@3=11(30@2=2 30@4=3))");
        expression("1*2+3", "35@3=9(35@1=11(30@0=1 30@2=2) 30@4=3)");
        expression("(1+2)*3", "35@5=11(35@2=9(30@1=1 30@3=2) 30@6=3)");
        expression("-1+2", "35@2=9(36@0=0(30@1=1) 30@3=2)");
        expression("-(1+2)", "36@0=0(35@3=9(30@2=1 30@4=2))");
        expression("-1*2", "35@2=11(36@0=0(30@1=1) 30@3=2)");
        expression("NOT 1=2", "35@5=3(36@0=1(30@4=1) 30@6=2)");
        expression("1<2=3>4", "35@3=3(35@1=5(30@0=1 30@2=2) 35@5=6(30@4=3 30@6=4))");
        expression("1=2<>3", "35@3=4(35@1=3(30@0=1 30@2=2) 30@5=3)");
        expression("1/2*3", "35@3=11(35@1=12(30@0=1 30@2=2) 30@4=3)");
        expression("1 OR 2 XOR 3&4=5<6+7*8",
            "35@2=0(30@0=1 35@7=1(30@5=2 35@12=2(30@11=3 35@14=3(30@13=4 35@16=5(30@15=5 "
            + "35@18=9(30@17=6 35@20=11(30@19=7 30@21=8)))))))");
        expression("1*2+3<4=5&6 XOR 7 OR 8",
            "35@18=0(35@12=1(35@9=2(35@7=3(35@5=5(35@3=9(35@1=11(30@0=1 30@2=2) 30@4=3) 30@6=4) 30@8=5) "
            + "30@10=6) 30@16=7) 30@21=8)");
        expression("x[1+2]*y(3-4,5)",
            "35@6=11(32@0=1(35@3=9(30@2=1 30@4=2)) 34@7=2(35@10=10(30@9=3 30@11=4) 30@13=5))");
    }

    private static void ladders() {
        //    0         1         2         3         4         5         6
        //    0123456789012345678901234567890123456789012345678901234567890123456789
        tree("PROGRAM p LADDER RUNG a/b>c<d.e-*|(f)(/a);(+b)|(-c); END_RUNG RUNG -;END_RUNG END_LADDER END_PROGRAM",
            "0 0 0 -1 1",
            "3 0 0 0 1",
            "22 10 0 1 2",
            "23 17 0 2 2",
            "24 22 0 3 9",
            "25 22 0 4 1",
            "6 22 1 5 0",
            "25 23 1 4 1",
            "6 24 2 7 0",
            "25 25 2 4 1",
            "6 26 3 9 0",
            "25 27 3 4 1",
            "33 28 4 11 1",
            "6 30 5 12 0",
            "26 31 0 4 0",
            "27 32 0 4 0",
            "29 33 0 4 0",
            "28 34 0 4 1",
            "6 35 6 17 0",
            "28 37 1 4 1",
            "6 39 1 19 0",
            "24 42 0 3 3",
            "28 42 2 21 1",
            "6 44 2 22 0",
            "29 46 0 21 0",
            "28 47 3 21 1",
            "6 49 3 25 0",
            "23 62 0 2 1",
            "24 67 0 27 1",
            "26 67 0 28 0");
    }

    private static void numbersOfNames() {
        Probe probe = new Probe("function_block Z var y,X:w;end_var z:=x+V.u(*t*);s(r:=Q[p],R:=O(n,z));"
            + "end_function_block");
        due.is("read()", probe.answer(), "read");
        due.is("names", probe.namesInOrder(), "Z\nY\nX\nW\nV\nU\nS\nR\nQ\nP\nO\nN\n");
        due.is("how many", probe.names(), 12);
        due.is("none in a text with a fault", new Probe("PROGRAM p x:=y").names(), 0);
    }

    /** Children come right behind their parent, with all that is below them. */
    private static void orderOfNodes() {
        Probe probe = new Probe("PROGRAM p IF a+b*c=d THEN x[1]:=f(1,2+3);ELSE CASE a OF 1:x:=1;END_CASE;END_IF;"
            + "y();END_PROGRAM");
        due.is("read()", probe.answer(), "read");
        due.is("the last below 0", lastBelow(probe, 0), probe.nodes() - 1);
        for (int n = 1; n < probe.nodes(); n++) {
            due.is("a parent is before " + n, probe.node(n, 3) >= 0 && probe.node(n, 3) < n ? 1 : 0, 1);
        }
    }
}
