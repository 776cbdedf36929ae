/** Promise 6, DEPTH, at its edge: each token that opens, as the 60th and the 61st one behind each other. */
public final class DepthEdgeTest {
    private static final Due due = new Due();
    private static final Reading reading = new Reading(due);

    /** What comes before and behind the rest; a ^ stands before the token that is open in between. */
    private record Opening(String before, String behind) {
        String plain() {
            return before.replace("^", "");
        }
    }

    /** Around a statement. */
    private static final Opening[] STATEMENTS = {
        new Opening("^IF a THEN ", "END_IF;"),
        new Opening("^IF a THEN ELSIF b THEN ", "END_IF;"),
        new Opening("^IF a THEN ELSE ", "END_IF;"),
        new Opening("^CASE a OF 1:", "END_CASE;"),
        new Opening("^CASE a OF ELSE ", "END_CASE;"),
        new Opening("^FOR a:=1 TO 2 DO ", "END_FOR;"),
    };

    /** From a statement to an outermost expression in it, which opens something or nothing. */
    private static final Opening[] INTO_EXPRESSIONS = {
        new Opening("f^(b:=", ");"),
        new Opening("f^(b:=1,c:=", ",d:=2);"),
        new Opening("a^[", "]:=1;"),
        new Opening("^IF ", " THEN END_IF;"),
        new Opening("^IF a THEN ELSIF ", " THEN END_IF;"),
        new Opening("^CASE ", " OF END_CASE;"),
    };

    /** Around an operand. */
    private static final Opening[] OPERANDS = {
        new Opening("^-", ""),
        new Opening("^NOT ", ""),
        new Opening("^(", ")"),
        new Opening("f^(", ")"),
        new Opening("f^(a,", ",b)"),
        new Opening("a^[", "]"),
        new Opening("a^+", ""),
        new Opening("a^-", ""),
        new Opening("a^*", ""),
        new Opening("a^/", ""),
        new Opening("a ^MOD ", ""),
        new Opening("a^=", ""),
        new Opening("a^<>", ""),
        new Opening("a^<", ""),
        new Opening("a^>", ""),
        new Opening("a^<=", ""),
        new Opening("a^>=", ""),
        new Opening("a^&", ""),
        new Opening("a ^AND ", ""),
        new Opening("a ^XOR ", ""),
        new Opening("a ^OR ", ""),
    };

    public static void main(String[] args) {
        statementsInStatements();
        expressionsInStatements();
        operandsInOperands();
        bracketsThatEndAtOnce();
        whatCannotComeIsNoDepth();
        whatIsBadlyWrittenIsNoDepth();
        whatDoesNotOpen();
        whatIsClosedBehindIt();
        signsStayUntilTheOutermostExpressionEnds();
        constantsAndArraysAreNeverOpen();
        cellsAreNeverOpen();
        nothingStaysOpenBehindAFault();
        due.end();
    }

    /** With so many around it. */
    private static String around(Opening opening, int times, String inner) {
        return opening.plain().repeat(times) + inner + opening.behind.repeat(times);
    }

    private static String within(Opening opening, String inner) {
        return opening.plain() + inner + opening.behind;
    }

    /** With the ^ at the token that opens. */
    private static String refused(Opening outer, int times, Opening opening, String inner) {
        return outer.plain().repeat(times) + opening.before + inner + opening.behind + outer.behind.repeat(times);
    }

    private static String program(String statements) {
        return "PROGRAM p " + statements + "END_PROGRAM";
    }

    private static void statementsInStatements() {
        for (Opening outer : STATEMENTS) {
            for (Opening inner : STATEMENTS) {
                reading.reads(program(around(outer, 59, within(inner, "x:=1;"))));
                reading.refuses(7, program(refused(outer, 60, inner, "x:=1;")));
            }
            // All are closed behind them.
            String full = around(outer, 60, "EXIT;");
            reading.reads(program(full + full + full));
        }
    }

    private static void expressionsInStatements() {
        for (Opening outer : STATEMENTS) {
            for (Opening inner : INTO_EXPRESSIONS) {
                reading.reads(program(around(outer, 59, within(inner, "b"))));
                reading.refuses(7, program(refused(outer, 60, inner, "b")));
            }
            for (Opening inner : OPERANDS) {
                reading.reads(program(around(outer, 59, "x:=" + within(inner, "b") + ";")));
                reading.refuses(7, program(around(outer, 60, "x:=" + inner.before + "b" + inner.behind + ";")));
            }
        }
        for (Opening outer : INTO_EXPRESSIONS) {
            for (Opening inner : OPERANDS) {
                reading.reads(program(within(outer, around(inner, 59, "b"))));
                reading.refuses(7, program(within(outer, refused(inner, 59, inner, "b"))));
                reading.reads(program(around(STATEMENTS[0], 58, within(outer, within(inner, "b")))));
                reading.refuses(7, program("IF a THEN ".repeat(59) + outer.plain() + inner.before + "b"));
            }
        }
    }

    private static void operandsInOperands() {
        for (Opening outer : OPERANDS) {
            for (Opening inner : OPERANDS) {
                reading.reads(program("x:=" + around(outer, 59, within(inner, "b")) + ";"));
                // A sign behind '-b' or 'NOT b' stands behind what these began: they are closed there.
                boolean closed = outer.behind.isEmpty() && (outer.plain().startsWith("-")
                    || outer.plain().startsWith("NOT")) && inner.plain().startsWith("a") && inner.behind.isEmpty();
                if (closed) {
                    reading.reads(program("x:=" + outer.plain().repeat(60) + within(inner, "b") + ";"));
                } else {
                    reading.refuses(7, program("x:=" + refused(outer, 60, inner, "b") + ";"));
                }
            }
        }
    }

    private static void bracketsThatEndAtOnce() {
        for (Opening outer : STATEMENTS) {
            reading.reads(program(around(outer, 59, "f();x:=f();")));
            reading.refuses(7, program(around(outer, 60, "f^();")));
            reading.refuses(7, program(around(outer, 60, "x:=f^();")));
        }
        reading.reads(program("x:=" + "(".repeat(59) + "f()" + ")".repeat(59) + ";"));
        reading.refuses(7, program("x:=" + "(".repeat(60) + "f^()" + ")".repeat(60) + ";"));
        reading.reads(program("x:=" + "a+".repeat(59) + "f();"));
        reading.refuses(7, program("x:=" + "a+".repeat(60) + "f^();"));
        reading.reads(program("g(b:=" + "NOT ".repeat(58) + "f());"));
        reading.refuses(7, program("g(b:=" + "NOT ".repeat(59) + "f^());"));
    }

    private static void whatCannotComeIsNoDepth() {
        for (Opening outer : STATEMENTS) {
            String sixty = "PROGRAM p " + outer.plain().repeat(60);
            String[] parts = {"^(", "^[", "^-5;", "^NOT a;", "^+", "^OR", "x ^IF", "x:=^IF", "x:=^[", "x:=^+", "x:=^OR",
                "x:=y ^NOT", "x:=y.z^(", "x:=y.z^[", "x:=5^(", "x:=5^[", "x:=TRUE^(", "x:=y;^(", "x^-", "f^;"};
            for (String part : parts) {
                if (!(part.equals("^-5;") && outer.plain().endsWith("1:"))) {
                    reading.refuses(6, sixty + part);
                }
            }
        }
        String signs = "PROGRAM p x:=" + "a+".repeat(60);
        reading.refuses(6, signs + "^*");
        reading.refuses(6, signs + "^[");
        reading.refuses(6, signs + "^;");
        reading.refuses(6, signs + "^IF");
        reading.refuses(6, signs + "a ^NOT");
        reading.refuses(6, signs + "a^");
    }

    private static void whatIsBadlyWrittenIsNoDepth() {
        String sixty = "PROGRAM p " + "IF a THEN ".repeat(60);
        reading.refuses(1, sixty + "x:=^@");
        reading.refuses(2, sixty + "x:=^(*(");
        reading.refuses(3, sixty + "^" + "x".repeat(33) + "(");
        reading.refuses(4, sixty + "x:=^5a+");
        reading.refuses(5, sixty + "x:=^%(");
        // And behind the 61st one nothing is looked at.
        reading.refuses(7, sixty + "x:=^(@");
        reading.refuses(7, sixty + "x:=y^+%");
        reading.refuses(7, sixty + "x:=y^[");
        reading.refuses(7, sixty + "^IF");
        reading.refuses(7, sixty + "^FOR IF");
    }

    /** Statements and operands that may come within sixty. */
    private static void whatDoesNotOpen() {
        String plain = "x:=y;x:=5;x:=TRUE;x:=y.z;EXIT;RETURN;;";
        for (Opening outer : STATEMENTS) {
            reading.reads(program(around(outer, 60, plain)));
        }
        for (String operand : new String[] {"y", "5", "16#F", "T#1S", "TRUE", "FALSE", "y.z"}) {
            for (Opening outer : OPERANDS) {
                reading.reads(program("x:=" + around(outer, 60, operand) + ";"));
            }
        }
    }

    /** Behind its end, each leaves room for another. */
    private static void whatIsClosedBehindIt() {
        for (Opening inner : OPERANDS) {
            String once = "x:=" + around(inner, 60, "b") + ";";
            reading.reads(program(once + once));
        }
        for (Opening inner : INTO_EXPRESSIONS) {
            String once = within(inner, around(new Opening("^(", ")"), 59, "b"));
            reading.reads(program(once + once));
        }
        for (Opening inner : new Opening[] {OPERANDS[0], OPERANDS[1], OPERANDS[2], OPERANDS[3], OPERANDS[5]}) {
            // As an operand of a call, each is closed at the comma; the call itself is open.
            String operands = (within(inner, "b") + ",").repeat(70);
            reading.reads(program("x:=f(" + operands + around(inner, 59, "b") + ");"));
            reading.refuses(7, program("x:=f(" + operands + refused(inner, 59, inner, "b") + ");"));
            // Before a sign, each is closed; the signs are not.
            reading.reads(program("x:=" + (within(inner, "b") + "+").repeat(59) + within(inner, "b") + ";"));
            reading.reads(program("x:=" + (within(inner, "b") + "+").repeat(60) + "b;"));
            reading.refuses(7, program("x:=" + (within(inner, "b") + "+").repeat(60) + inner.before + "b;"));
            reading.refuses(7, program("x:=" + (within(inner, "b") + "+").repeat(60) + "b^+b;"));
        }
        reading.reads(program("IF a THEN END_IF;".repeat(61) + "CASE a OF END_CASE;".repeat(61)
            + "FOR a:=1 TO 2 DO END_FOR;".repeat(61) + "f();".repeat(61) + "a[1]:=2;".repeat(61)));
    }

    private static void signsStayUntilTheOutermostExpressionEnds() {
        for (String operand : new String[] {"(a+b)", "f(a+b)", "f(a,a+b,a)", "a[a+b]"}) {
            // Each has a sign within and one behind it, and thirty make sixty.
            reading.reads(program("x:=" + (operand + "*").repeat(30) + "a;"));
            reading.refuses(7, program("x:=" + (operand + "*").repeat(30) + "a^*a;"));
        }
        String sum = "a" + "+a".repeat(59);
        reading.reads(program("f(b:=" + sum + ",c:=" + sum + ",d:=" + sum + ");x:=" + sum + "+a;"));
        reading.refuses(7, program("f(b:=" + sum + ",c:=" + sum + ",d:=" + sum + "^+a);"));
        reading.reads(program("y[" + sum + "]:=" + sum + "+a;"));
        reading.refuses(7, program("y[" + sum + "^+a]:=1;"));
        reading.refuses(7, program("y[" + sum + "]:=" + sum + "+a^+a;"));
        String inTwo = "IF " + sum + " THEN ELSIF " + sum + " THEN CASE a" + "+a".repeat(58);
        reading.reads(program(inTwo + " OF END_CASE;END_IF;"));
        reading.refuses(7, program(inTwo + "^+a OF END_CASE;END_IF;"));
        reading.refuses(7, program("IF " + sum + "^+a THEN"));
        reading.refuses(7, program("IF " + sum + " THEN ELSIF " + sum + "^+a THEN"));
        reading.reads(program("x:=f(" + "a+a,".repeat(59) + "a)+a;"));
        reading.refuses(7, program("x:=f(" + "a+a,".repeat(59) + "a)+a^+a;"));
        reading.refuses(7, program("x:=y[" + sum + "]+a^+a;"));
    }

    private static void constantsAndArraysAreNeverOpen() {
        String arrays = "VAR " + "a:ARRAY[-1..-2]OF INT:=-3;".repeat(61) + "END_VAR ";
        reading.reads(program(arrays + around(STATEMENTS[0], 60, "x:=y;")));
        reading.refuses(7, program(arrays + refused(STATEMENTS[0], 60, STATEMENTS[0], "")));
        reading.reads(program(around(STATEMENTS[0], 59, "FOR i:=-1 TO -2 BY -3 DO x:=y;END_FOR;")));
        reading.refuses(7, program(around(STATEMENTS[0], 59, "FOR i:=-1 TO -2 BY -3 DO x:=^-4;END_FOR;")));
        String choices = "-1:" + "-2..-3,".repeat(70) + "-4:";
        reading.reads(program(around(STATEMENTS[0], 59, "CASE a OF " + choices + "END_CASE;")));
        reading.reads(program(around(STATEMENTS[0], 59, "CASE a OF " + choices + "x:=5;-6:x:=y;END_CASE;")));
        reading.refuses(7, program(around(STATEMENTS[0], 59, "CASE a OF " + choices + "x:=^-5;END_CASE;")));
    }

    /** Whatever was open when the last read() ended: sixty may be open in the next one, and not 61. */
    private static void nothingStaysOpenBehindAFault() {
        for (Opening statement : STATEMENTS) {
            for (int times : new int[] {1, 30, 60, 61}) {
                nextIsAsTheFirst("PROGRAM p " + statement.plain().repeat(times));
                nextIsAsTheFirst("PROGRAM p " + statement.plain().repeat(times) + "@");
            }
        }
        for (Opening operand : OPERANDS) {
            for (int times : new int[] {1, 30, 60, 61}) {
                nextIsAsTheFirst("PROGRAM p x:=" + operand.plain().repeat(times));
                nextIsAsTheFirst("PROGRAM p x:=" + operand.plain().repeat(times) + "a 5");
                nextIsAsTheFirst("PROGRAM p f(b:=" + operand.plain().repeat(times) + "a @");
                nextIsAsTheFirst("PROGRAM p y[" + operand.plain().repeat(times) + "a");
            }
        }
    }

    private static void nextIsAsTheFirst(String text) {
        Calls faulty = new Calls().withText(text).read();
        due.is(text + "\nhas a fault", faulty.answer() > 0 ? 1 : 0, 1);
        String in58 = "PROGRAM p " + "IF a THEN ".repeat(58);
        due.is(text + "\nand then one without", faulty.withText(in58 + "f(b:=-c.d);x:=-(e);" + "END_IF;".repeat(58)
            + "END_PROGRAM").read().whatWasRead(), "0 -1 186 8");
        nextRefuses(faulty, 6, in58 + "f(b:=-c);^");
        nextRefuses(faulty, 6, in58 + "f(b:=-c+d);^");
        nextRefuses(faulty, 7, in58 + "f(b:=-^-c);");
        nextRefuses(faulty, 7, in58 + "f(b:=c+d^+e);");
        nextRefuses(faulty, 6, in58 + "x:=1 ^2");
        nextRefuses(faulty, 1, in58 + "x:=(-^@");
    }

    /** The fault is where a ^ stands in the text. */
    private static void nextRefuses(Calls before, int fault, String marked) {
        Calls next = before.withText(marked.replace("^", "")).read();
        due.is(marked + "\nbehind another text", next.whatWasRead(), fault + " " + marked.indexOf('^') + " 0 0");
    }

    private static void cellsAreNeverOpen() {
        String row = "(a)(/b)(+c)(-d)-*/e>f<g.h|(i)".repeat(61) + ";";
        reading.reads(program("LADDER RUNG " + row + row + "END_RUNG END_LADDER "));
        reading.reads(program("LADDER " + "RUNG (a);END_RUNG ".repeat(61) + "END_LADDER ")
            + " " + program(around(STATEMENTS[0], 60, "x:=y;")));
    }
}
