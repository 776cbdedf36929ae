/** Promise 6, GRAMMAR: for each form a text that has it, and texts in which it ends too early. */
public final class FormTest {
    private static final Due due = new Due();
    private static final Reading reading = new Reading(due);

    public static void main(String[] args) {
        blocks();
        sections();
        types();
        constants();
        bodies();
        statements();
        choices();
        expressions();
        operands();
        ladders();
        cells();
        due.end();
    }

    /**
     * The form has a blank between its tokens: it is read, and behind each of its tokens but the last one the text's
     * end is told. In the early one a ^ stands before what can't come; if that is its end, it is what comes behind.
     */
    private static void form(String before, String form, String behind, String early) {
        reading.reads(before + form + " " + behind);
        for (int i = form.indexOf(' '); i >= 0; i = form.indexOf(' ', i + 1)) {
            reading.refuses(6, before + form.substring(0, i) + "^");
        }
        reading.refuses(6, before + early + (early.endsWith("^") ? "" : " ") + behind);
    }

    private static void blocks() {
        reading.reads("");
        form("", "FUNCTION f : INT END_FUNCTION", "", "FUNCTION f : INT^");
        form("", "FUNCTION f : INT END_FUNCTION", "PROGRAM p END_PROGRAM", "FUNCTION f : INT ^");
        form("", "FUNCTION f : BOOL VAR END_VAR VAR END_VAR END_FUNCTION", "", "FUNCTION f ^VAR END_VAR END_FUNCTION");
        form("", "FUNCTION f : DINT ; END_FUNCTION", "", "FUNCTION f : ^; END_FUNCTION");
        form("", "FUNCTION_BLOCK b END_FUNCTION_BLOCK", "", "FUNCTION_BLOCK ^END_FUNCTION_BLOCK");
        form("", "FUNCTION_BLOCK b VAR END_VAR ; END_FUNCTION_BLOCK", "", "FUNCTION_BLOCK ^VAR END_VAR");
        form("", "PROGRAM p END_PROGRAM", "", "PROGRAM ^END_PROGRAM");
        form("", "PROGRAM p VAR END_VAR ; END_PROGRAM", "PROGRAM q END_PROGRAM", "PROGRAM p VAR END_VAR ; ^");
    }

    private static void sections() {
        String before = "PROGRAM p ";
        String behind = "END_PROGRAM";
        for (String word : new String[] {"VAR", "VAR_INPUT", "VAR_OUTPUT"}) {
            form(before, word + " END_VAR", behind, word + " ^");
            form(before, word + " a : INT ; END_VAR", behind, word + " a : INT ; ^");
            form(before, word + " a : INT ; b : INT ; END_VAR", behind, word + " a : INT ; b : INT ^");
        }
        before = "PROGRAM p VAR ";
        behind = "END_VAR END_PROGRAM";
        form(before, "a : INT ;", behind, "a ^");
        form(before, "a , b , c : INT ;", behind, "a , b , ^: INT ;");
        form(before, "a AT %IX1 : INT ;", behind, "a AT ^: INT ;");
        form(before, "a : INT := 5 ;", behind, "a : INT := ^;");
        form(before, "a , b AT %MW63 : INT := - 5 ;", behind, "a , b AT %MW63 ^:= - 5 ;");
    }

    private static void types() {
        String before = "PROGRAM p VAR a : ";
        String behind = "; END_VAR END_PROGRAM";
        for (String simple : new String[] {"BOOL", "INT", "DINT"}) {
            form(before, simple, behind, "^");
            form("FUNCTION f : ", simple, "END_FUNCTION", "^");
            form(before, "ARRAY [ 1 .. 2 ] OF " + simple, behind, "ARRAY [ 1 .. 2 ] OF ^");
        }
        form(before, "b", behind, "^");
        form(before, "ARRAY [ - 1 .. - 2 ] OF INT", behind, "ARRAY [ - 1 .. - 2 ] ^");
        form(before, "ARRAY [ TRUE .. FALSE ] OF INT", behind, "ARRAY [ TRUE ^] OF INT");
    }

    private static void constants() {
        String[][] places = {
            {"PROGRAM p VAR a : INT := ", "; END_VAR END_PROGRAM"},
            {"PROGRAM p VAR a : ARRAY [ ", ".. 2 ] OF INT ; END_VAR END_PROGRAM"},
            {"PROGRAM p VAR a : ARRAY [ 1 .. ", "] OF INT ; END_VAR END_PROGRAM"},
            {"PROGRAM p FOR a := ", "TO 2 DO END_FOR ; END_PROGRAM"},
            {"PROGRAM p FOR a := 1 TO ", "BY 2 DO END_FOR ; END_PROGRAM"},
            {"PROGRAM p FOR a := 1 TO 2 BY ", "DO END_FOR ; END_PROGRAM"},
            {"PROGRAM p CASE a OF 1 , ", ": END_CASE ; END_PROGRAM"},
            {"PROGRAM p CASE a OF 1 .. ", ": END_CASE ; END_PROGRAM"},
        };
        for (String[] place : places) {
            form(place[0], "5", place[1], "^b");
            form(place[0], "- 5", place[1], "- ^");
            form(place[0], "- 16#FF", place[1], "- ^TRUE");
            form(place[0], "TRUE", place[1], "^NOT TRUE");
            form(place[0], "FALSE", place[1], "^( FALSE )");
        }
    }

    private static void bodies() {
        form("PROGRAM p ", "a := 1 ; b ( ) ; ;", "END_PROGRAM", "a := 1 ; b ( ) ^");
        form("PROGRAM p ", "LADDER END_LADDER", "END_PROGRAM", "LADDER ^");
        form("PROGRAM p ", "LADDER RUNG a ; END_RUNG RUNG b ; END_RUNG END_LADDER", "END_PROGRAM",
            "LADDER RUNG a ; END_RUNG RUNG b ; END_RUNG ^");
    }

    private static void statement(String form, String early) {
        form("PROGRAM p ", form, "END_PROGRAM", early);
        form("PROGRAM p IF a THEN ", form, "ELSE END_IF ; END_PROGRAM", early);
        form("PROGRAM p IF a THEN ELSE ", form, "END_IF ; END_PROGRAM", early);
        form("PROGRAM p CASE a OF 1 : ", form, "2 : END_CASE ; END_PROGRAM", early);
        form("PROGRAM p FOR a := 1 TO 2 DO ", form, "END_FOR ; END_PROGRAM", early);
    }

    private static void statements() {
        statement("a := b ;", "a := ^;");
        statement("a := b + c ;", "a := b + c ^");
        statement("a [ b ] := c ;", "a [ b ] ^;");
        statement("a [ b + 1 ] := c [ 2 ] ;", "a [ b + 1 ^:= c [ 2 ] ;");
        statement("a ( ) ;", "a ( ^;");
        statement("a ( b := 1 ) ;", "a ( b ^) ;");
        statement("a ( b := 1 , c := 2 ) ;", "a ( b := 1 , ^) ;");
        statement("a ( b := 1 , c := 2 , d := 3 ) ;", "a ( b := 1 , c := 2 , d := ^) ;");
        statement("EXIT ;", "EXIT ^");
        statement("RETURN ;", "RETURN ^");
        statement("IF a THEN END_IF ;", "IF a THEN END_IF ^");
        statement("IF a THEN ELSE ; END_IF ;", "IF a ^ELSE ; END_IF ;");
        statement("IF a THEN ELSIF b THEN END_IF ;", "IF a THEN ELSIF ^THEN END_IF ;");
        statement("IF a THEN ; ELSIF b THEN ; ELSIF c THEN ; ELSE ; END_IF ;",
            "IF a THEN ; ELSIF b THEN ; ELSIF c ^ELSE ; END_IF ;");
        statement("FOR i := 1 TO 2 DO END_FOR ;", "FOR i := 1 ^DO END_FOR ;");
        statement("FOR i := 1 TO 2 BY 3 DO ; END_FOR ;", "FOR i := 1 TO 2 BY ^DO ; END_FOR ;");
        statement("FOR i := - 1 TO TRUE DO a := b ; END_FOR ;", "FOR i := - 1 TO TRUE DO a := b ^END_FOR ;");
    }

    private static void choices() {
        statement("CASE a OF END_CASE ;", "CASE a ^END_CASE ;");
        statement("CASE a OF ELSE END_CASE ;", "CASE ^OF ELSE END_CASE ;");
        statement("CASE a OF 1 : END_CASE ;", "CASE a OF 1 ^END_CASE ;");
        statement("CASE a OF 1 : b := c ; 2 : ELSE ; END_CASE ;", "CASE a OF 1 : b := c ; 2 ^ELSE ; END_CASE ;");
        statement("CASE a OF 1 .. 2 : END_CASE ;", "CASE a OF 1 .. ^: END_CASE ;");
        statement("CASE a OF 1 , 2 .. 3 , - 4 : END_CASE ;", "CASE a OF 1 , 2 .. 3 , ^: END_CASE ;");
    }

    private static void expression(String form, String early) {
        form("PROGRAM p a := ", form, "; END_PROGRAM", early);
        form("PROGRAM p a [ ", form, "] := 1 ; END_PROGRAM", early);
        form("PROGRAM p a ( b := ", form, ", b := 2 ) ; END_PROGRAM", early);
        form("PROGRAM p IF ", form, "THEN END_IF ; END_PROGRAM", early);
        form("PROGRAM p IF a THEN ELSIF ", form, "THEN END_IF ; END_PROGRAM", early);
        form("PROGRAM p CASE ", form, "OF END_CASE ; END_PROGRAM", early);
        form("PROGRAM p a := 1 + ", form, "; END_PROGRAM", early);
        form("PROGRAM p a := - ", form, "; END_PROGRAM", early);
        form("PROGRAM p a := ( ", form, ") ; END_PROGRAM", early);
        form("PROGRAM p a := b [ ", form, "] ; END_PROGRAM", early);
        form("PROGRAM p a := b ( ", form, ", 2 ) ; END_PROGRAM", early);
    }

    private static void expressions() {
        String[] between = {"OR", "XOR", "AND", "&", "=", "<>", "<", ">", "<=", ">=", "+", "-", "*", "/", "MOD"};
        for (String sign : between) {
            expression("a " + sign + " b", "a " + sign + " ^");
            expression("a " + sign + " b " + sign + " c", "a " + sign + " b " + sign + " ^");
        }
        expression("a OR b XOR c AND d = e < f + g * h", "a OR b XOR c AND d = e < f + g * ^");
        expression("a * b + c < d = e & f XOR g OR h", "a * b + c < d = e & f XOR g OR ^");
    }

    private static void operands() {
        expression("a", "^");
        expression("5", "^");
        expression("TRUE", "^");
        expression("FALSE", "^");
        expression("- a", "- ^");
        expression("- - NOT - 5", "- - NOT - ^");
        expression("NOT a", "NOT ^");
        expression("( a )", "( ^) + a");
        expression("( ( a + b ) * c )", "( ( a + b ) * ^)");
        expression("a [ b ]", "a [ ^]");
        expression("a [ b [ c ] ]", "a [ b [ ^] ]");
        expression("a . b", "a . ^");
        expression("a ( )", "a ( ^, b )");
        expression("a ( b )", "a ( b + ^)");
        expression("a ( b , c ( ) , 1 + 2 )", "a ( b , c ( ) , ^)");
    }

    private static void ladders() {
        String before = "PROGRAM p LADDER ";
        String behind = "END_LADDER END_PROGRAM";
        form(before, "RUNG a ; END_RUNG", behind, "RUNG a ; ^");
        form(before, "RUNG a ; b ; END_RUNG", behind, "RUNG a ; b ^END_RUNG");
        form(before, "RUNG a ; END_RUNG", behind, "RUNG ^END_RUNG");
        before = "PROGRAM p LADDER RUNG ";
        behind = "END_RUNG END_LADDER END_PROGRAM";
        form(before, "a ;", behind, "a ^");
        form(before, "a b / c > d - * ( e ) ;", behind, "a b / c > d - * ( e ) ^");
        form(before, "a | b ;", behind, "a | ^;");
        form(before, "- | * | ( a ) | b c ;", behind, "- | * | ^;");
        form(before, "a ; b ; - ;", behind, "a ; b ; ^;");
    }

    private static void cell(String form, String early) {
        form("PROGRAM p LADDER RUNG ", form, "; END_RUNG END_LADDER END_PROGRAM", early);
        form("PROGRAM p LADDER RUNG a ", form, "| b ; END_RUNG END_LADDER END_PROGRAM", early);
        form("PROGRAM p LADDER RUNG a | ", form, "; END_RUNG END_LADDER END_PROGRAM", early);
    }

    private static void cells() {
        cell("a", "a . ^");
        cell("a . b", "a . ^5");
        for (String sign : new String[] {"/", ">", "<"}) {
            cell(sign + " a", sign + " ^");
            cell(sign + " a . b", sign + " a . ^");
        }
        cell("-", "- ^.");
        cell("*", "* ^5");
        cell("( a )", "( a ^");
        for (String sign : new String[] {"/", "+", "-"}) {
            cell("( " + sign + " a )", "( " + sign + " ^)");
        }
    }
}
