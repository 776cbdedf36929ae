/** Promise 10, WRITTEN: what a tree is written as, and that this is read as the same tree. */
public final class WriteTest {
    private static final Due due = new Due();

    public static void main(String[] args) {
        blocks();
        declarations();
        statements();
        expressions();
        ladders();
        due.end();
    }

    private static void written(String text, String want) {
        Probe probe = new Probe(text);
        due.is(text + "\nread()", probe.answer(), "read");
        due.is(text + "\nwrite()", probe.written(), want);
        Probe again = new Probe(want);
        due.is(want + "\nread()", again.answer(), "read");
        due.is(want + "\nwrite()", again.written(), want);
        due.is(want + "\nnames", again.namesInOrder(), probe.namesInOrder());
        due.is(want + "\nnodes", again.nodes(), probe.nodes());
        for (int n = 0; n < probe.nodes(); n++) {
            for (int what = 0; what < 5; what++) {
                if (what != 1) {
                    due.is(want + "\nnode(" + n + ", " + what + ")", again.node(n, what), probe.node(n, what));
                }
            }
        }
    }

    private static void blocks() {
        written("", "");
        written(" (* nothing *)\n", "");
        written("program p end_program", "PROGRAM P END_PROGRAM");
        written("function\nf:int end_function(**)function_block\tg end_function_block",
            "FUNCTION F:INT END_FUNCTION FUNCTION_BLOCK G END_FUNCTION_BLOCK");
        written("function f : bool ; ; end_function", "FUNCTION F:BOOL END_FUNCTION");
        written("function f:dint var end_var var_input end_var var_output end_var var end_var end_function",
            "FUNCTION F:DINT VAR END_VAR VAR_INPUT END_VAR VAR_OUTPUT END_VAR VAR END_VAR END_FUNCTION");
    }

    private static void declarations(String declarations, String want) {
        written("PROGRAM p VAR " + declarations + " END_VAR END_PROGRAM",
            "PROGRAM P VAR " + want + "END_VAR END_PROGRAM");
    }

    private static void declarations() {
        declarations("a : int ;", "A:INT;");
        declarations("a , b , c : dint := 007 ;", "A,B,C:DINT:=7;");
        declarations("a:int;b:int;a:int;", "A:INT;B:INT;A:INT;");
        declarations("a at %ix000 : bool := true ;", "A AT%IX0:BOOL:=TRUE;");
        declarations("a at %qx255:bool;b at %mx010:bool;", "A AT%QX255:BOOL;B AT%MX10:BOOL;");
        declarations("a at %iw63:int;b at %qw9:int;c at %mw1:int;", "A AT%IW63:INT;B AT%QW9:INT;C AT%MW1:INT;");
        declarations("a : array [ - 16#ff .. 2#11 ] of int := - 5 ;", "A:ARRAY[-255..3]OF INT:=-5;");
        declarations("a : array [ false .. true ] of bool ;", "A:ARRAY[FALSE..TRUE]OF BOOL;");
        declarations("a : ton := - 0 ;", "A:TON:=0;");
        declarations("a:int:=t#5ms;b:int:=T#5S;c:int:=t#5M;d:int:=T#5h;",
            "A:INT:=5;B:INT:=5000;C:INT:=300000;D:INT:=18000000;");
        declarations("a:int:=2147483647;b:int:=-2147483647;c:int:=16#7fffffff;",
            "A:INT:=2147483647;B:INT:=-2147483647;C:INT:=2147483647;");
        declarations("a:int:=10;b:int:=100;c:int:=1000000000;d:int:=1000000001;",
            "A:INT:=10;B:INT:=100;C:INT:=1000000000;D:INT:=1000000001;");
    }

    private static void statements(String statements, String want) {
        written("PROGRAM p " + statements + " END_PROGRAM", "PROGRAM P " + want + "END_PROGRAM");
    }

    private static void statements() {
        statements(";;", "");
        statements("; a := b ; ;", "A:=B;");
        statements("a [ 1 ] := b [ 2 ] ;", "A[1]:=B[2];");
        statements("a ( ) ; b ( c := 1 , d := e ) ;", "A();B(C:=1,D:=E);");
        statements("if a then end_if ;", "IF A THEN END_IF;");
        statements("if(a)then;end_if;", "IF A THEN END_IF;");
        statements("if a then b := c ; elsif d then elsif - e then ; else f ( ) ; end_if ;",
            "IF A THEN B:=C;ELSIF D THEN ELSIF-E THEN ELSE F();END_IF;");
        statements("if a then else end_if ;", "IF A THEN ELSE END_IF;");
        statements("case a of end_case ;", "CASE A OF END_CASE;");
        statements("case a of else end_case ;", "CASE A OF ELSE END_CASE;");
        statements("case (a) of 1 : 2 : end_case ;", "CASE A OF 1:2:END_CASE;");
        statements("case f(a) of - 1 .. - 2 , true , 3 : a := 1 ; 4 : exit ; else ; return ; end_case ;",
            "CASE F(A)OF-1..-2,TRUE,3:A:=1;4:EXIT;ELSE RETURN;END_CASE;");
        statements("for i := 1 to 2 do end_for ;", "FOR I:=1 TO 2 DO END_FOR;");
        statements("for i := - 1 to - 2 by - 3 do a := 1 ; end_for ;", "FOR I:=-1 TO-2 BY-3 DO A:=1;END_FOR;");
        statements("for i := true to false by 1 do ; end_for ;", "FOR I:=TRUE TO FALSE BY 1 DO END_FOR;");
        statements("exit ; return ;", "EXIT;RETURN;");
    }

    private static void expression(String expression, String want) {
        statements("x:=" + expression + ";", "X:=" + want + ";");
    }

    private static void expressions() {
        expression("((a))", "A");
        expression("a AND b & c", "A&B&C");
        expression("a or b xor c mod d", "A OR B XOR C MOD D");
        expression("a < b > c <= d >= e", "A<B>C<=D>=E");
        expression("a = b <> c", "A=B<>C");
        expression("a + b - c", "A+B-C");
        expression("a * b / c", "A*B/C");
        expression("(a+b)+c", "A+B+C");
        expression("a+(b+c)", "A+(B+C)");
        expression("a-(b+c)", "A-(B+C)");
        expression("(a-b)-c", "A-B-C");
        expression("(a*b)+(c*d)", "A*B+C*D");
        expression("(a+b)*(c+d)", "(A+B)*(C+D)");
        expression("a*(b*c)", "A*(B*C)");
        expression("a*(b mod c)", "A*(B MOD C)");
        expression("(a mod b)mod c", "A MOD B MOD C");
        expression("a mod(b)mod(c+d)", "A MOD B MOD(C+D)");
        expression("(a=b)=(c=d)", "A=B=(C=D)");
        expression("(a<b)<>(c<=d)", "A<B<>C<=D");
        expression("(a<>b)<(c=d)", "(A<>B)<(C=D)");
        expression("(a or b)and(c xor d)", "(A OR B)&(C XOR D)");
        expression("(a and b)or(c and d)", "A&B OR C&D");
        expression("a or(b or c)", "A OR(B OR C)");
        expression("a xor(b or c)", "A XOR(B OR C)");
        expression("a&(b xor c)", "A&(B XOR C)");
        expression("(a xor b)xor c", "A XOR B XOR C");
        expression("-(a+b)", "-(A+B)");
        expression("-(a)", "-A");
        expression("(-a)*b", "-A*B");
        expression("-(a*b)", "-(A*B)");
        expression("a-(-b)", "A--B");
        expression("a - - - b", "A---B");
        expression("not(not(a))", "NOT NOT A");
        expression("not(a=b)", "NOT(A=B)");
        expression("(not a)=b", "NOT A=B");
        expression("not-5", "NOT-5");
        expression("-not 5", "-NOT 5");
        expression("-(-(a&b))", "--(A&B)");
        expression("f ( ) + g ( (a) , (b+c) )", "F()+G(A,B+C)");
        expression("a [ (b+c) ] * d . e", "A[B+C]*D.E");
        expression("a[b]mod f(c)or d.e", "A[B]MOD F(C)OR D.E");
        expression("true and false", "TRUE&FALSE");
        expression("5 mod 007", "5 MOD 7");
        expression("16#0+2#0+T#0H+00", "0+0+0+0");
    }

    private static void ladders() {
        statements("ladder end_ladder", "LADDER END_LADDER ");
        statements("ladder rung a b / c > d < e . f - * | ( g ) ( / h ) ( + i ) ( - j ) ; end_rung end_ladder",
            "LADDER RUNG A B/C>D<E.F-*|(G)(/H)(+I)(-J);END_RUNG END_LADDER ");
        statements("ladder rung / a ; - ; end_rung rung ( b ) ; end_rung end_ladder",
            "LADDER RUNG/A;-;END_RUNG RUNG(B);END_RUNG END_LADDER ");
        statements("ladder rung * ( b ) ; a | b . c | d ; end_rung end_ladder",
            "LADDER RUNG*(B);A|B.C|D;END_RUNG END_LADDER ");
    }
}
