/** Promise 6, DEPTH: sixty tokens may be open, the 61st one is fault 7. */
public final class DepthTest {
    private static final Due due = new Due();
    private static final Reading reading = new Reading(due);
    private static final String[] BETWEEN = {"+", "-", "*", "/", "=", "<>", "<", ">", "<=", ">=", "&"};

    public static void main(String[] args) {
        statements();
        behindSixtyStatements();
        operands();
        signsBetween();
        whatIsClosed();
        outermostOnes();
        neverOpen();
        due.end();
    }

    /** Nested as often as may be, and with one token more: the ^ in the opening stands before the one that opens. */
    private static void nested(String before, String opening, String inner, String closing, String behind) {
        String plain = opening.replace("^", "");
        reading.reads(before + plain.repeat(60) + inner + closing.repeat(60) + behind);
        reading.refuses(7, before + plain.repeat(60) + opening + inner + closing.repeat(61) + behind);
        // And all of it is closed then.
        String twice = plain.repeat(60) + inner + closing.repeat(60);
        if (behind.startsWith("END")) {
            reading.reads(before + twice + twice + behind);
        }
    }

    private static void statements() {
        nested("PROGRAM p ", "^IF a THEN ", "", "END_IF;", "END_PROGRAM");
        nested("PROGRAM p ", "^IF a THEN ELSE ", "EXIT;", "END_IF;", "END_PROGRAM");
        nested("PROGRAM p ", "^IF a THEN ELSIF b THEN ", "", "END_IF;", "END_PROGRAM");
        nested("PROGRAM p ", "^CASE a OF 1:", ";", "END_CASE;", "END_PROGRAM");
        nested("PROGRAM p ", "^CASE a OF ELSE ", "", "END_CASE;", "END_PROGRAM");
        nested("PROGRAM p ", "^FOR a:=1 TO 2 DO ", "x:=y;", "END_FOR;", "END_PROGRAM");
        String three = "IF a THEN CASE b OF ELSE FOR c:=1 TO 2 DO ";
        String ends = "END_FOR;END_CASE;END_IF;";
        reading.reads("PROGRAM p " + three.repeat(20) + ends.repeat(20) + "END_PROGRAM");
        reading.refuses(7, "PROGRAM p " + three.repeat(20) + "^" + three);
    }

    private static void behindSixtyStatements() {
        String sixty = "PROGRAM p " + "IF a THEN ".repeat(60);
        reading.reads(sixty + "x:=y;x:=5;x:=y.z;x:=TRUE;EXIT;;RETURN;" + "END_IF;".repeat(60) + "END_PROGRAM");
        String[] deep = {
            "x:=^-y;", "x:=^NOT y;", "x:=^(y);", "x:=y^+z;", "x:=y^();", "x:=y^(z);", "x:=y^[z];", "x^[y]:=z;",
            "x^();", "x^(y:=z);", "^IF a", "^CASE a", "^FOR i", "ELSIF b^=c", "ELSIF ^(b)", "x:=y;^FOR", "^FOR 5",
            "x:=y^[", "x:=y^(12a", "x:=y^+@", "x:=y ^OR",
            "END_IF;x:=-y;x:=(y);x:=y+z;x();x[y]:=z;IF a THEN END_IF;x:=y+z^+z;",
        };
        for (String part : deep) {
            reading.refuses(7, sixty + part);
        }
        String[] wrong = {"^5", "x:=^*", "x:=^]", "x:=y^]", "x^+y", "x:=y ^NOT", "x:=^IF", "ELSE ^ELSE"};
        for (String part : wrong) {
            reading.refuses(6, sixty + part);
        }
        reading.refuses(4, sixty + "x:=^12a");
        reading.refuses(1, sixty + "x:=y^@");
    }

    private static void operands() {
        String end = ";END_PROGRAM";
        nested("PROGRAM p x:=", "^(", "a", ")", end);
        nested("PROGRAM p x:=", "^-", "a", "", end);
        nested("PROGRAM p x:=", "^NOT ", "a", "", end);
        nested("PROGRAM p x:=", "a^[", "1", "]", end);
        nested("PROGRAM p x:=", "f^(", "", ")", end);
        nested("PROGRAM p x:=", "f^(1,", "1", ")", end);
        reading.reads("PROGRAM p x:=" + "-(".repeat(30) + "a" + ")".repeat(30) + end);
        reading.refuses(7, "PROGRAM p x:=" + "-(".repeat(30) + "^-a" + ")".repeat(30) + end);
        reading.refuses(7, "PROGRAM p x:=" + "-f(".repeat(30) + "b^[a]" + ")".repeat(30) + end);
    }

    private static void signsBetween() {
        for (String sign : BETWEEN) {
            signs(sign, "^" + sign);
        }
        for (String word : new String[] {"OR", "XOR", "AND", "MOD"}) {
            signs(" " + word + " ", " ^" + word + " ");
        }
        String mixed = "a OR b XOR c AND d=e<f+g*h";
        reading.reads("PROGRAM p x:=" + (mixed + "-").repeat(7) + "a+b+c+d+e;END_PROGRAM");
        reading.refuses(7, "PROGRAM p x:=" + (mixed + "-").repeat(7) + "a+b+c+d+e^*f;END_PROGRAM");
        reading.refuses(7, "PROGRAM p x:=" + (mixed + "-(").repeat(6) + "a+b+c+d+e+f+g^*h;END_PROGRAM");
    }

    private static void signs(String sign, String marked) {
        String sixty = "a" + (sign + "a").repeat(60);
        reading.reads("PROGRAM p x:=" + sixty + ";END_PROGRAM");
        reading.refuses(7, "PROGRAM p x:=" + sixty + marked + "a;END_PROGRAM");
        reading.reads("PROGRAM p x:=" + sixty + ";x:=" + sixty + ";END_PROGRAM");
        String right = ("a" + sign + "(").repeat(30) + "a";
        reading.reads("PROGRAM p x:=" + right + ")".repeat(30) + ";END_PROGRAM");
        reading.refuses(7, "PROGRAM p x:=" + right + marked + "a");
    }

    /** Brackets are open until they end, signs between operands until the outermost expression does. */
    private static void whatIsClosed() {
        String before = "PROGRAM p x:=";
        String end = ";END_PROGRAM";
        reading.reads(before + "(a)+".repeat(59) + "(a)" + end);
        reading.refuses(7, before + "(a)+".repeat(60) + "^(a)" + end);
        reading.reads(before + "(a)+".repeat(60) + "a" + end);
        reading.reads(before + "-a+".repeat(59) + "-a" + end);
        reading.refuses(7, before + "a+".repeat(60) + "^-a" + end);
        reading.reads(before + "f(a+a)+".repeat(30) + "a" + end);
        reading.refuses(7, before + "f(a+a)+".repeat(29) + "f(a+a)+f^()" + end);
        reading.reads(before + "a[b+c]+".repeat(20) + "a+".repeat(20) + "a" + end);
        reading.refuses(7, before + "a[b+c]+".repeat(20) + "a+".repeat(20) + "a^+a" + end);
        reading.reads(before + "f(" + "a+b,".repeat(59) + "a)+a" + end);
        reading.refuses(7, before + "f(" + "a+b,".repeat(59) + "a^+a)" + end);
        reading.refuses(7, before + "f(" + "a+b,".repeat(59) + "a)+a^+a" + end);
        reading.reads(before + "f()" + "+f()".repeat(59) + end);
    }

    /** Those of parameters, and the index before :=, and those of IF, ELSIF and CASE. */
    private static void outermostOnes() {
        String end = ";END_PROGRAM";
        String sum = "a+".repeat(59) + "a";
        reading.reads("PROGRAM p f(b:=" + sum + ",c:=" + sum + ",d:=" + sum + ")" + end);
        reading.refuses(7, "PROGRAM p f(b:=" + sum + ",c:=" + sum + "^+a)" + end);
        reading.reads("PROGRAM p x[" + sum + "]:=a+" + sum + end);
        reading.refuses(7, "PROGRAM p x[" + sum + "^+a]:=a" + end);
        reading.refuses(7, "PROGRAM p x[" + sum + "]:=a+" + sum + "^+a" + end);
        reading.reads("PROGRAM p IF " + sum + " THEN x:=" + sum + ";ELSIF " + sum + " THEN END_IF" + end);
        reading.refuses(7, "PROGRAM p IF " + sum + " THEN x:=a+" + "a+".repeat(58) + "a^+a" + end);
        reading.reads("PROGRAM p CASE " + sum + " OF 1:x:=" + sum + ";END_CASE" + end);
        reading.refuses(7, "PROGRAM p CASE " + sum + " OF 1:x:=" + sum + "^+a" + end);
    }

    /** The '-' of a constant, the '[' of an ARRAY, and what is in a ladder. */
    private static void neverOpen() {
        String before = "PROGRAM p VAR a:ARRAY[-1..-2]OF INT:=-5;END_VAR " + "IF a THEN ".repeat(59);
        String end = "END_IF;".repeat(59) + "END_PROGRAM";
        reading.reads(before + "FOR i:=-1 TO -2 BY -3 DO END_FOR;" + end);
        reading.reads(before + "CASE a OF -1,-2..-3:x:=5;END_CASE;" + end);
        reading.refuses(7, before + "CASE a OF -1,-2..-3:x:=^-5;END_CASE;" + end);
        String row = "-(x)(-y)/z>v<w*".repeat(100);
        reading.reads("PROGRAM p LADDER RUNG " + row + ";END_RUNG END_LADDER END_PROGRAM");
        reading.reads("PROGRAM p " + "x(y:=-(1));".repeat(100) + "END_PROGRAM");
    }
}
