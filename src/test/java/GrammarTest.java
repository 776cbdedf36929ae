/** Promise 6, GRAMMAR: what comes, and fault 6 where a token can't come or the text ends. */
public final class GrammarTest {
    private static final Due due = new Due();
    private static final Reading reading = new Reading(due);

    public static void main(String[] args) {
        blocks();
        declarations();
        statements();
        statementsOfOnePlace();
        choices();
        expressions();
        ladders();
        rows();
        endsTooEarly();
        due.end();
    }

    private static void all(String before, String behind, String... parts) {
        for (String part : parts) {
            reading.readsOrRefuses(before + part + behind);
        }
    }

    private static void blocks() {
        all("", "",
            "PROGRAM p END_PROGRAM",
            "FUNCTION f:INT END_FUNCTION FUNCTION_BLOCK b END_FUNCTION_BLOCK PROGRAM p END_PROGRAM",
            "FUNCTION f:BOOL END_FUNCTION",
            "FUNCTION f:DINT VAR END_VAR VAR_INPUT END_VAR VAR_OUTPUT END_VAR VAR END_VAR END_FUNCTION",
            "FUNCTION f ^INT END_FUNCTION",
            "FUNCTION f:^g END_FUNCTION",
            "FUNCTION f:^ARRAY END_FUNCTION",
            "PROGRAM p^:INT END_PROGRAM",
            "PROGRAM ^INT END_PROGRAM",
            "PROGRAM p ^END_FUNCTION",
            "FUNCTION f:INT ^END_FUNCTION_BLOCK",
            "FUNCTION_BLOCK b ^END_FUNCTION",
            "PROGRAM p END_PROGRAM^;",
            "PROGRAM p END_PROGRAM ^p",
            "^VAR END_VAR",
            "^x",
            "PROGRAM p ; ^VAR END_VAR END_PROGRAM",
            "PROGRAM p ^PROGRAM q");
    }

    private static void declarations() {
        all("PROGRAM p VAR ", "END_VAR END_PROGRAM",
            "",
            "a:INT;",
            "a,b,c AT %IX1:BOOL:=TRUE;d:e:=-5;f:ARRAY[-1..16#F]OF DINT:=FALSE;",
            "a:ARRAY[TRUE..FALSE]OF BOOL;",
            "^;",
            "a^;",
            "a ^b:INT;",
            "a,^:INT;",
            "a,^INT:INT;",
            "a AT^:INT;",
            "a AT ^b:INT;",
            "a AT %IX1^,b:INT;",
            "a AT %IX1 ^AT %IX2:INT;",
            "a ^%IX1:INT;",
            "a:^;",
            "a:^5;",
            "a:INT ^",
            "a:INT^=5;",
            "a:INT:=^;",
            "a:INT:=^b;",
            "a:INT:=-^-5;",
            "a:INT:=-^TRUE;",
            "a:INT:=5^+5;",
            "a:INT:=^(5);",
            "a:ARRAY ^1..2 OF INT;",
            "a:ARRAY[1^]OF INT;",
            "a:ARRAY[1..2^,3..4]OF INT;",
            "a:ARRAY[1..2]^INT;",
            "a:ARRAY[1..2]OF ^b;",
            "a:ARRAY[1..2]OF ^ARRAY[1..2]OF INT;",
            "a:ARRAY[^b..2]OF INT;",
            "^VAR ");
    }

    private static void statements() {
        String[] parts = {
            ";",
            ";;;a:=b;;",
            "a:=b ^",
            "a^=b;",
            "a^:b;",
            "a^;",
            "a^.b:=c;",
            "a[b]:=c;",
            "a[^]:=c;",
            "a[b^,c]:=d;",
            "a[b]^;",
            "a[b]^(c:=d);",
            "a();",
            "a() ^",
            "a(b:=c);",
            "a(b:=c,d:=e+f(g,h));",
            "a(b^);",
            "a(^5);",
            "a(^,b:=c);",
            "a(b:=c,^);",
            "a(b:=^);",
            "a(b:=c ^d:=e);",
            "IF a THEN END_IF;",
            "IF a THEN b:=c;ELSIF d THEN ELSIF e THEN ;ELSE f:=g;END_IF;",
            "IF a THEN END_IF ^x:=1;",
            "IF ^THEN END_IF;",
            "IF a ^b:=c;END_IF;",
            "IF a THEN ELSE ^ELSIF b THEN END_IF;",
            "IF a THEN ELSE ^ELSE END_IF;",
            "IF a THEN ELSIF ^THEN END_IF;",
            "FOR i:=1 TO 2 DO END_FOR;",
            "FOR i:=-1 TO -2 BY -3 DO ;a:=b; END_FOR;",
            "FOR i:=TRUE TO FALSE DO END_FOR;",
            "FOR i^[1]:=1 TO 2 DO END_FOR;",
            "FOR ^1:=1 TO 2 DO END_FOR;",
            "FOR i:=^a TO 2 DO END_FOR;",
            "FOR i:=1 TO ^a DO END_FOR;",
            "FOR i:=1 TO 2^+3 DO END_FOR;",
            "FOR i:=1 ^BY 2 DO END_FOR;",
            "FOR i:=1 TO 2 BY ^DO END_FOR;",
            "FOR i:=1 TO 2 ^END_FOR;",
            "FOR i:=1 TO 2 DO END_FOR ^",
            "EXIT;RETURN;",
            "EXIT ^a;",
            "RETURN ^a;",
            "; ^LADDER END_LADDER",
            "^THEN ",
            "^(a):=b;",
        };
        all("PROGRAM p ", "END_PROGRAM", parts);
        all("PROGRAM p IF a THEN ", "END_IF;END_PROGRAM", parts);
        all("PROGRAM p CASE a OF 1:", "ELSE END_CASE;END_PROGRAM", parts);
        all("FUNCTION f:INT FOR a:=1 TO 2 DO ", "END_FOR;END_FUNCTION", parts);
    }

    /** What begins another thing elsewhere. */
    private static void statementsOfOnePlace() {
        all("PROGRAM p IF a THEN ", " END_IF;END_PROGRAM", "^LADDER END_LADDER", "^TRUE:=a;", "^5:a:=b;", "^-a;");
        all("PROGRAM p ", " END_PROGRAM", "LADDER END_LADDER", "^ELSE", "^5:a:=b;", "^END_IF;", "EXIT;EXIT;");
    }

    private static void choices() {
        all("PROGRAM p CASE a OF ", " END_CASE;END_PROGRAM",
            "",
            "ELSE",
            "ELSE a:=b;",
            "1:",
            "1:2:3:",
            "-1..-2,TRUE,FALSE..5:a:=b;c();7:;ELSE ;",
            "^a:",
            "^;",
            "1^;",
            "1,^:",
            "1..^:",
            "1..2^..3:",
            "-^-1:",
            "-^TRUE:",
            "1:a:=b;-^c:=d;",
            "1:a:=b ^c:",
            "ELSE ^1:",
            "ELSE ^ELSE",
            "^ELSIF");
        all("PROGRAM p CASE ", " END_CASE;END_PROGRAM", "a OF", "^OF", "a ^1:", "a ^THEN");
    }

    private static void expressions() {
        String[] parts = {
            "a",
            "a OR b XOR c AND d&e=f<>g<h>i<=j>=k+l-m*n/o MOD p",
            "a=b=c<d<e",
            "---a",
            "NOT-NOT a",
            "a- -b",
            "a+NOT b",
            "(((a)))",
            "f()",
            "f(a,b+c,f(d))",
            "a[b[c]]",
            "a.b+c",
            "TRUE AND FALSE",
            "^+a",
            "a+ ^",
            "a ^b",
            "a ^5",
            "a ^TRUE",
            "5 ^a",
            "5^(a)",
            "5^.a",
            "TRUE^.a",
            "a.^5",
            "a.b^.c",
            "a.b^[c]",
            "a[b]^[c]",
            "a[b]^.c",
            "f()^()",
            "f()^.a",
            "f(^,a)",
            "f(a,^)",
            "f(a^:=b)",
            "(^)",
            "(a^,b)",
            "(a^]",
            "a[b^)",
            "a*^/b",
            "a ^NOT b",
            "NOT ^OR b",
            "a^|b",
            "a^..b",
            "^%IX1",
            "^IF",
        };
        all("PROGRAM p x:=", ";END_PROGRAM", parts);
        all("PROGRAM p x[", "]:=1;END_PROGRAM", parts);
        all("PROGRAM p x(y:=", ");END_PROGRAM", parts);
        all("PROGRAM p x:=f(1,", ");END_PROGRAM", parts);
        all("PROGRAM p x:=a[", "];END_PROGRAM", parts);
        all("PROGRAM p IF (", ")THEN ELSIF a THEN END_IF;END_PROGRAM", parts);
    }

    private static void ladders() {
        all("", "",
            "PROGRAM p LADDER END_LADDER END_PROGRAM",
            "FUNCTION f:INT VAR END_VAR LADDER END_LADDER END_FUNCTION",
            "PROGRAM p LADDER RUNG a;END_RUNG RUNG b;c;END_RUNG END_LADDER END_PROGRAM",
            "PROGRAM p LADDER END_LADDER^;END_PROGRAM",
            "PROGRAM p LADDER END_LADDER ^LADDER",
            "PROGRAM p LADDER ^a;END_LADDER END_PROGRAM",
            "PROGRAM p LADDER RUNG ^END_RUNG END_LADDER END_PROGRAM",
            "PROGRAM p LADDER RUNG a; ^RUNG",
            "PROGRAM p LADDER RUNG a; ^END_LADDER",
            "PROGRAM p ^RUNG");
    }

    private static void rows() {
        all("PROGRAM p LADDER RUNG ", "END_RUNG END_LADDER END_PROGRAM",
            "a;",
            "a b c;",
            "a|b|c;-|-;",
            "/a>b<c/d.e>f.g<h.i;",
            "-*-*;",
            "(a)(/b)(+c)(-d);",
            "(a)b|*|(c);",
            "^;",
            "^|a;",
            "a|^;",
            "a|^|b;",
            "a;^|b;",
            "a;^;",
            "a ^",
            "/^/a;",
            "/^-;",
            "/^(a);",
            "/^5;",
            "^+a;",
            "a.^;",
            "a.b^.c;",
            "a.^5;",
            "(^);",
            "(^>a);",
            "(a^.b);",
            "(a ^b);",
            "(a^;",
            "(-^-a);",
            "^5;",
            "a^:=b;",
            "^NOT a;",
            "-^.a;");
    }

    /** At every token of a text: the text's end is told, with the blanks at it. */
    private static void endsTooEarly() {
        String function = "FUNCTION f : INT VAR a , b AT %IX1 : ARRAY [ - 1 .. 2 ] OF INT := - 5 ; END_VAR "
            + "a [ 1 ] := - b ( c , d . e ) ; IF a THEN ELSIF b THEN ELSE END_IF ; "
            + "CASE a OF 1 .. 2 , 3 : ELSE END_CASE ; FOR i := 1 TO 2 BY 3 DO END_FOR ; EXIT ; "
            + "f ( x := y , z := ( 1 ) ) ; END_FUNCTION ";
        String text = function + "PROGRAM p LADDER RUNG / a . b | ( + c ) ; END_RUNG END_LADDER END_PROGRAM ";
        for (int i = 0; i < text.length(); i++) {
            if (text.charAt(i) == ' ') {
                boolean whole = i == function.length() - 1 || i == text.length() - 1;
                String end = whole ? "" : "^";
                reading.readsOrRefuses(text.substring(0, i) + end);
                reading.readsOrRefuses(text.substring(0, i) + " (* *)\n" + end);
            }
        }
    }
}
