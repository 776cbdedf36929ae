import java.util.TreeSet;

/** Promises 6 and 8, THE TREE: for each kind of node its place, its value and its children in order. */
public final class KindTest {
    private static final int LAST_KIND = 36;
    private static final Due due = new Due();
    private static final TreeSet<Integer> tested = new TreeSet<>();

    public static void main(String[] args) {
        blocks();
        declarations();
        types();
        bodies();
        statements();
        choices();
        ladders();
        constants();
        operands();
        signs();
        due.is("kinds that are tested", tested.size(), LAST_KIND + 1);
        due.end();
    }

    /** One node of this kind stands where the text has a ^ (which is not read); children are told by their kinds. */
    private static void node(int kind, int value, String children, String marked) {
        tested.add(kind);
        int place = marked.indexOf('^');
        Probe probe = new Probe(marked.substring(0, place) + marked.substring(place + 1));
        due.is(marked + "\nread()", probe.answer(), "read");
        int found = 0;
        for (int n = 0; n < probe.nodes(); n++) {
            if (probe.node(n, 0) == kind && probe.node(n, 1) == place) {
                found++;
                due.is(marked + "\nthe value of " + kind, probe.node(n, 2), value);
                due.is(marked + "\nthe children of " + kind, childrenOf(probe, n), children);
            }
        }
        due.is(marked + "\nhow many nodes " + kind + " stand there", found, 1);
    }

    private static String childrenOf(Probe probe, int parent) {
        StringBuilder all = new StringBuilder();
        int children = 0;
        for (int n = 0; n < probe.nodes(); n++) {
            if (probe.node(n, 3) == parent) {
                all.append(children == 0 ? "" : " ").append(probe.node(n, 0));
                children++;
            }
        }
        due.is("how many children", probe.node(parent, 4), children);
        return all.toString();
    }

    private static void blocks() {
        node(0, 0, "", "^");
        node(0, 0, "", "^ (* nothing *)\n");
        node(0, 0, "3", "^PROGRAM p END_PROGRAM");
        node(0, 0, "3 1 2 1", "^ (**) PROGRAM p END_PROGRAM FUNCTION f:INT END_FUNCTION "
            + "FUNCTION_BLOCK b END_FUNCTION_BLOCK FUNCTION f:INT END_FUNCTION");
        node(1, 0, "8 11", "^FUNCTION f:INT END_FUNCTION");
        node(1, 0, "8 22", "^FUNCTION f:INT LADDER END_LADDER END_FUNCTION");
        node(1, 1, "8 4 4 11", "PROGRAM p END_PROGRAM ^function f:INT VAR END_VAR VAR END_VAR f:=1;END_FUNCTION");
        node(2, 0, "11", "^FUNCTION_BLOCK f END_FUNCTION_BLOCK");
        node(2, 0, "22", " ^FUNCTION_BLOCK f LADDER END_LADDER END_FUNCTION_BLOCK");
        node(2, 1, "4 11", "PROGRAM p END_PROGRAM ^Function_Block f VAR END_VAR END_FUNCTION_BLOCK");
        node(3, 0, "11", "^PROGRAM f END_PROGRAM");
        node(3, 0, "4 22", "(**)^PROGRAM f VAR END_VAR LADDER END_LADDER END_PROGRAM");
        node(3, 2, "4 4 4 11", "PROGRAM p x:=1;END_PROGRAM ^program f VAR END_VAR VAR_INPUT END_VAR "
            + "VAR_OUTPUT END_VAR END_PROGRAM");
    }

    private static void section(int kind, int value, String children, String marked) {
        node(kind, value, children, "PROGRAM p VAR a,b:INT;END_VAR " + marked + " END_PROGRAM");
    }

    private static void declarations() {
        section(4, 0, "", "^VAR END_VAR");
        section(4, 0, "5", "^var a:INT;END_VAR");
        section(4, 1, "5 5", "^VAR_INPUT a:INT;b:INT;END_VAR");
        section(4, 2, "5 5 5", "^Var_Output a:INT;b:INT;c,d:INT;END_VAR");
        section(5, 0, "6 8", "VAR ^c:INT;END_VAR");
        section(5, 0, "6 6 6 8", "VAR ^c,d,a:INT;END_VAR");
        section(5, 0, "6 7 8 30", "VAR ^c AT %IX1:INT:=5;END_VAR");
        section(5, 0, "6 6 7 9 31", "VAR a:INT;^b,c AT %IX1:ARRAY[1..2]OF INT:=TRUE;END_VAR");
        section(5, 0, "6 10 30", "VAR ^c:d:=-5;END_VAR");
        section(6, 3, "", "VAR a,^c,b:INT;END_VAR");
        section(6, 2, "", "VAR ^b:INT;END_VAR");
        section(7, 0, "", "VAR c AT ^%IX0:BOOL;END_VAR");
        section(7, 255, "", "VAR c AT ^%ix255:BOOL;END_VAR");
        section(7, 256 + 1, "", "VAR c AT ^%QX1:BOOL;END_VAR");
        section(7, 512 + 2, "", "VAR c AT ^%mX02:BOOL;END_VAR");
        section(7, 768 + 3, "", "VAR c AT ^%IW3:INT;END_VAR");
        section(7, 1024 + 4, "", "VAR c AT ^%Qw4:INT;END_VAR");
        section(7, 1280 + 63, "", "VAR c AT^%MW63:INT;END_VAR");
    }

    private static void types() {
        section(8, 0, "", "VAR c:^BOOL;END_VAR");
        section(8, 1, "", "VAR c: ^Int;END_VAR");
        section(8, 2, "", "VAR c:ARRAY[1..2]OF ^DINT;END_VAR");
        node(8, 0, "", "FUNCTION f:^BOOL END_FUNCTION");
        node(8, 1, "", "FUNCTION f:^INT VAR END_VAR END_FUNCTION");
        node(8, 2, "", "FUNCTION f: ^dint LADDER END_LADDER END_FUNCTION");
        section(9, 0, "30 30 8", "VAR c:^ARRAY[1..2]OF BOOL;END_VAR");
        section(9, 0, "31 30 8", "VAR c:^array[FALSE..-2]OF BOOL;END_VAR");
        section(10, 3, "", "VAR a:^c;END_VAR");
        section(10, 2, "", "VAR a: ^B:=5;END_VAR");
    }

    private static void bodies() {
        node(11, 0, "", "PROGRAM ^p END_PROGRAM");
        node(11, 0, "", "PROGRAM ^p;;;END_PROGRAM");
        node(11, 0, "12 20", "FUNCTION_BLOCK (**) ^b a:=1;;EXIT;END_FUNCTION_BLOCK");
        node(11, 0, "13", "PROGRAM p VAR END_VAR VAR ^END_VAR f();END_PROGRAM");
        node(11, 0, "21", "FUNCTION f:^INT RETURN;END_FUNCTION");
        node(11, 0, "15 16 19", "FUNCTION f:INT VAR ^END_VAR IF a THEN END_IF;CASE a OF END_CASE;"
            + "FOR a:=1 TO 2 DO END_FOR;END_FUNCTION");
        statement(11, 0, "20 21", "IF a ^THEN EXIT;RETURN;END_IF;");
        statement(11, 0, "21", "IF a THEN EXIT;ELSIF b ^THEN RETURN;END_IF;");
        statement(11, 0, "13", "IF a THEN EXIT;^ELSE f();END_IF;");
        statement(11, 0, "12", "CASE a OF 1..2,3^:a:=1;4:END_CASE;");
        statement(11, 0, "", "CASE a OF 1:a:=1;4 ^: END_CASE;");
        statement(11, 0, "12 12", "CASE a OF 1:EXIT;^ELSE a:=1;a:=2;END_CASE;");
        statement(11, 0, "20", "FOR a:=1 TO 2 ^DO EXIT;END_FOR;");
    }

    /** Names 0 to 2 are P, A and B. */
    private static void statement(int kind, int value, String children, String marked) {
        node(kind, value, children, "PROGRAM p a:=b;" + marked + "END_PROGRAM");
    }

    private static void statements() {
        statement(12, 0, "6 30", "c^:=1;");
        statement(12, 0, "32 35", "c[a] ^:= a+b;");
        statement(12, 0, "32 36", "c[d[1]]^:=-a;");
        statement(13, 3, "", "^c();");
        statement(13, 1, "14", "^a(b:=1);");
        statement(13, 2, "14 14 14", ";^B (b:=1,c:=2,b:=3);");
        statement(14, 3, "30", "a(^c:=1);");
        statement(14, 2, "35", "a(c:=1, ^b:=1+2);");
        statement(14, 3, "34", "a(b:=1,^c:=d(1,2),d:=3);");
        statement(15, 0, "6 11", "^IF a THEN END_IF;");
        statement(15, 0, "35 11 11", "^if a&b THEN ELSE END_IF;");
        statement(15, 0, "6 11 31 11 35 11", "^IF a THEN ELSIF TRUE THEN ELSIF a+b THEN END_IF;");
        statement(15, 0, "6 11 36 11 11", "^IF a THEN ELSIF -b THEN ELSE END_IF;");
        statement(19, 3, "30 30 11", "^FOR c:=1 TO 2 DO END_FOR;");
        statement(19, 1, "30 31 30 11", "^for a:=-1 TO TRUE BY 3 DO a:=1;END_FOR;");
        statement(20, 0, "", "^EXIT;");
        statement(20, 0, "", "IF a THEN ^exit ;END_IF;");
        statement(21, 0, "", "^RETURN;");
        statement(21, 0, "", "FOR a:=1 TO 2 DO ^Return;END_FOR;");
    }

    private static void choices() {
        statement(16, 0, "6", "^CASE a OF END_CASE;");
        statement(16, 0, "6 11", "^CASE a OF ELSE END_CASE;");
        statement(16, 0, "35 17 17", "^case a+b OF 1:2:END_CASE;");
        statement(16, 0, "30 17 11", "^CASE 1 OF 1:a:=1;ELSE END_CASE;");
        statement(17, 0, "18 11", "CASE a OF ^1:END_CASE;");
        statement(17, 0, "18 11", "CASE a OF ^-1..2:END_CASE;");
        statement(17, 0, "18 18 18 11", "CASE a OF 7:a:=1;^TRUE,2..3,4:a:=1;END_CASE;");
        statement(18, 0, "30", "CASE a OF ^1:END_CASE;");
        statement(18, 0, "30 30", "CASE a OF ^-1..-2:END_CASE;");
        statement(18, 0, "31 30", "CASE a OF 1,^FALSE..2,3:END_CASE;");
        statement(18, 0, "30", "CASE a OF 1,2..3, ^- 4:END_CASE;");
    }

    /** Names 0 to 2 are P, A and B. */
    private static void row(int kind, int value, String children, String marked) {
        node(kind, value, children, "PROGRAM p LADDER RUNG a b;" + marked + "END_RUNG END_LADDER END_PROGRAM");
    }

    private static void ladders() {
        node(22, 0, "", "PROGRAM p ^LADDER END_LADDER END_PROGRAM");
        node(22, 0, "23 23", "FUNCTION f:INT ^ladder RUNG a;END_RUNG RUNG a;END_RUNG END_LADDER END_FUNCTION");
        node(23, 0, "24", "PROGRAM p LADDER ^RUNG a;END_RUNG END_LADDER END_PROGRAM");
        node(23, 0, "24 24 24", "PROGRAM p LADDER RUNG a;END_RUNG ^rung a;-;*;END_RUNG END_LADDER END_PROGRAM");
        row(24, 0, "25", "^a;");
        row(24, 0, "25 26 27 28", "^/a-*(b);");
        row(24, 0, "28 29 25 29 26 27 29 25", "^(a)|b|-*|>a;");
        row(25, 0, "6", "^a;");
        row(25, 0, "33", "- ^a.b;");
        row(25, 1, "6", "-^/a;");
        row(25, 1, "33", "-^/ a . b-;");
        row(25, 2, "6", "^>a;");
        row(25, 2, "33", "a^>a.b;");
        row(25, 3, "6", "^<a;");
        row(25, 3, "33", "a|^<a.b;");
        row(6, 2, "", "/^b;");
        row(33, 1, "6", ">^a.b;");
        row(6, 3, "", "<a.^c;");
        row(26, 0, "", "^-;");
        row(26, 0, "", "a|^-;");
        row(27, 0, "", "^*;");
        row(27, 0, "", "*-^*;");
        row(28, 0, "6", "^(a);");
        row(28, 1, "6", "-^(/a);");
        row(28, 2, "6", "*|^(+a);");
        row(28, 3, "6", "^( -a )-;");
        row(6, 3, "", "(-^c);");
        row(29, 0, "", "a^|b;");
        row(29, 0, "", "-|- ^| -;");
    }

    private static void constants() {
        section(30, 0, "", "VAR c:INT:=^0;END_VAR");
        section(30, -1, "", "VAR c:INT:=^-1;END_VAR");
        section(30, 2147483647, "", "VAR c:INT:=^2147483647;END_VAR");
        section(30, -2147483647, "", "VAR c:INT:=^- (**) 16#7FFFFFFF;END_VAR");
        section(30, 7200000, "", "VAR c:ARRAY[1..^T#2H]OF INT;END_VAR");
        section(30, -5, "", "VAR c:ARRAY[^-2#101..2]OF INT;END_VAR");
        statement(30, 3, "", "FOR a:=1 TO ^3 DO END_FOR;");
        statement(30, -3, "", "FOR a:=1 TO 3 BY ^-3 DO END_FOR;");
        statement(30, -7, "", "CASE a OF 1..^-7:END_CASE;");
        section(31, 1, "", "VAR c:BOOL:=^TRUE;END_VAR");
        section(31, 0, "", "VAR c:BOOL:=^False;END_VAR");
        statement(31, 1, "", "CASE a OF FALSE..^true:END_CASE;");
    }

    private static void operands() {
        statement(30, 255, "", "a:=^16#fF;");
        statement(30, 5, "", "a:=-^5;");
        statement(31, 1, "", "a:=^TRUE;");
        statement(31, 0, "", "a:=(^FALSE);");
        statement(6, 2, "", "a:=( ^b );");
        statement(6, 3, "", "^c:=b;");
        statement(32, 1, "6", "^a[b]:=1;");
        statement(32, 2, "35", "a:=^b[1+2];");
        statement(32, 3, "32", "a:=1+^c[a[1]];");
        statement(33, 1, "6", "a:=^a.b;");
        statement(33, 3, "6", "a:=1+^c . a;");
        statement(6, 1, "", "a:=c.^a;");
        statement(34, 3, "", "a:=^c();");
        statement(34, 1, "30", "a:=^a(1);");
        statement(34, 2, "35 6 34", "a:=^b(1+2,a,b());");
    }

    private static void signs() {
        String[] between = {"OR", "XOR", "AND", "=", "<>", "<", ">", "<=", ">=", "+", "-", "*", "/", "MOD"};
        for (int value = 0; value < between.length; value++) {
            statement(35, value, "6 30", "a:=b ^" + between[value] + " 1;");
            statement(35, value, "34 36", "a(b:=c()^" + between[value] + "(-1));");
        }
        statement(35, 2, "6 6", "a:=b^&a;");
        statement(35, 9, "35 30", "a:=1*2^+3;");
        statement(35, 9, "30 35", "a:=1^+2*3;");
        statement(35, 10, "35 30", "a:=1-2^-3;");
        statement(35, 10, "30 30", "a:=1^-2-3;");
        statement(35, 10, "30 35", "a:=1^-(2-3);");
        statement(36, 0, "30", "a:=^-1;");
        statement(36, 0, "35", "a:=1-^-(1+2);");
        statement(36, 0, "36", "a:=^--1;");
        statement(36, 1, "6", "a:=^NOT b;");
        statement(36, 1, "36", "a:=1&^not-b;");
        statement(36, 1, "32", "a:=^NOT b[1];");
    }
}
