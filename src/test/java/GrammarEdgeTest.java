import java.util.ArrayList;
import java.util.Arrays;
import java.util.List;
import java.util.Set;
import java.util.TreeSet;

/**
 * Promise 6, GRAMMAR, at its edges: at each place of texts that have every part of the grammar, every token that can
 * come and every one that can't, every badly written one, and the text's end.
 */
public final class GrammarEdgeTest {
    private static final Due due = new Due();
    private static final Reading reading = new Reading(due);
    private static final Grammar grammar = new Grammar();
    private static final String SIGNS = ":= .. <= >= <> ( ) [ ] , ; : . + - * / = < > & |";

    private static final String[] TEXTS = {
        "FUNCTION n : INT VAR END_VAR VAR_INPUT n : BOOL ; n , n , n AT %IX0 : DINT := - 7 ; END_VAR VAR_OUTPUT "
            + "n : n ; n : ARRAY [ - 7 .. TRUE ] OF INT := FALSE ; END_VAR END_FUNCTION "
            + "FUNCTION_BLOCK n VAR END_VAR ; END_FUNCTION_BLOCK PROGRAM n END_PROGRAM",
        "PROGRAM n n := n ; n [ n ] := 7 ; n ( ) ; n ( n := n , n := TRUE , n := - n ) ; EXIT ; RETURN ; ; "
            + "FOR n := - 7 TO TRUE BY - 7 DO n := n ; END_FOR ; FOR n := 7 TO 7 DO END_FOR ; END_PROGRAM",
        "FUNCTION n : BOOL IF n THEN END_IF ; IF n THEN n := n ; ELSIF n THEN ; ELSIF n THEN ELSE n ( ) ; END_IF ; "
            + "CASE n OF END_CASE ; CASE n OF 7 : - 7 , 7 .. - 7 , TRUE : n := 7 ; ; 7 : ELSE ; END_CASE ; "
            + "END_FUNCTION",
        "PROGRAM n n := - NOT ( n + 7 ) * n [ n - 7 ] / n . n MOD n ( ) OR n ( n , 7 , - n ) XOR TRUE AND FALSE & n "
            + "= n <> n < n > n <= n >= n ; END_PROGRAM",
        "PROGRAM n LADDER END_LADDER END_PROGRAM FUNCTION_BLOCK n VAR END_VAR LADDER RUNG n ; END_RUNG RUNG / n "
            + "> n . n < n | - * | ( n ) ( / n ) ( + n ) ( - n ) ; * ; END_RUNG END_LADDER END_FUNCTION_BLOCK",
    };

    /** By their fault; each is badly written wherever it stands. */
    private static final String[] BAD = {"", "@", "(*", "a".repeat(33), "7n", "%IX256"};

    public static void main(String[] args) {
        for (String text : TEXTS) {
            reading.reads(text);
            eachTokenAtEachPlace(text.split(" "));
        }
        blocksMayBeNone();
        endsWithBlanksBehindThem();
        partsThatMayBeNoneOrMany();
        due.end();
    }

    private static String symbol(String token) {
        switch (token) {
            case "n": return "name";
            case "7": return "number";
            case "%IX0": return "place";
            default: return Character.isLetter(token.charAt(0)) ? token : "'" + token + "'";
        }
    }

    private static List<String> allTokens() {
        List<String> all = new ArrayList<>(new TreeSet<>(Model.WORDS));
        all.addAll(Arrays.asList(SIGNS.split(" ")));
        all.addAll(List.of("n", "7", "%IX0"));
        return all;
    }

    private static void eachTokenAtEachPlace(String[] tokens) {
        List<String> symbols = new ArrayList<>();
        String before = "";
        for (int i = 0; i <= tokens.length; i++) {
            Set<String> following = grammar.following(symbols);
            reading.is(before, following.contains("end") ? "read" : "fault 6 at " + before.length());
            for (String token : allTokens()) {
                comes(before, token, following, symbols);
            }
            for (int fault = 1; fault < BAD.length; fault++) {
                reading.is(before + BAD[fault], "fault " + fault + " at " + before.length());
            }
            if (i < tokens.length) {
                symbols.add(symbol(tokens[i]));
                before += tokens[i] + " ";
            }
        }
    }

    /** If it can come, only what is behind it can be refused; here that is the text's end. */
    private static void comes(String before, String token, Set<String> following, List<String> symbols) {
        String text = before + token;
        if (!following.contains(symbol(token))) {
            reading.is(text, "fault 6 at " + before.length());
            reading.is(text + " @", "fault 6 at " + before.length());
            return;
        }
        List<String> more = new ArrayList<>(symbols);
        more.add(symbol(token));
        reading.is(text, grammar.firstRefused(more) < 0 ? "read" : "fault 6 at " + text.length());
        reading.is(text + " @", "fault 1 at " + (text.length() + 1));
    }

    private static void blocksMayBeNone() {
        reading.reads("");
        reading.reads(" ");
        reading.reads("(**)");
        due.is("the tree of no block", new Probe("").tree(), "0 0 0 -1 0\n");
        due.is("the tree of blanks", new Probe(" \n(**)\t\r ").tree(), "0 0 0 -1 0\n");
        due.is("many blocks", new Probe("PROGRAM p END_PROGRAM ".repeat(300)).node(0, 4), 300);
    }

    /** The place is how many bytes the text has, not where its last token ends. */
    private static void endsWithBlanksBehindThem() {
        for (String behind : new String[] {"", " ", "\n\n\n", "(**)", "(* end *) ", " (**)(**)"}) {
            reading.refuses(6, "PROGRAM" + behind + "^");
            reading.refuses(6, "PROGRAM p" + behind + "^");
            reading.refuses(6, "PROGRAM p x:=(1+2" + behind + "^");
            reading.reads("PROGRAM p END_PROGRAM" + behind);
        }
        for (int length : new int[] {8191, 8192}) {
            due.is("the end of " + length, new Probe("PROGRAM p" + " ".repeat(length - 9)).answer(),
                "fault 6 at " + length);
        }
    }

    /** None, one and many of each part in { }, none and one of each part in [ ]. */
    private static void partsThatMayBeNoneOrMany() {
        for (int times : new int[] {0, 1, 2, 61, 200}) {
            reading.reads("PROGRAM p " + "VAR END_VAR ".repeat(times) + "END_PROGRAM");
            reading.reads("PROGRAM p VAR " + "a:INT;".repeat(times) + "END_VAR END_PROGRAM");
            reading.reads("PROGRAM p VAR a" + ",b".repeat(times) + ":INT;END_VAR END_PROGRAM");
            reading.reads("PROGRAM p " + ";".repeat(times) + "END_PROGRAM");
            reading.reads("PROGRAM p " + "x:=1;".repeat(times) + "END_PROGRAM");
            reading.reads("PROGRAM p f(a:=1" + ",a:=1".repeat(times) + ");END_PROGRAM");
            reading.reads("PROGRAM p x:=f(1" + ",1".repeat(times) + ");END_PROGRAM");
            reading.reads("PROGRAM p IF a THEN " + "ELSIF b THEN ".repeat(times) + "END_IF;END_PROGRAM");
            reading.reads("PROGRAM p CASE a OF " + "1:".repeat(times) + "END_CASE;END_PROGRAM");
            reading.reads("PROGRAM p CASE a OF 1" + ",1..2".repeat(times) + ":END_CASE;END_PROGRAM");
            reading.reads("PROGRAM p LADDER " + "RUNG a;END_RUNG ".repeat(times) + "END_LADDER END_PROGRAM");
            reading.reads("PROGRAM p LADDER RUNG a;" + "-;".repeat(times) + "END_RUNG END_LADDER END_PROGRAM");
            reading.reads("PROGRAM p LADDER RUNG a" + "|*-".repeat(times) + ";END_RUNG END_LADDER END_PROGRAM");
        }
        reading.refuses(6, "PROGRAM p LADDER RUNG ^END_RUNG");
        reading.refuses(6, "PROGRAM p LADDER RUNG ^;");
        reading.refuses(6, "PROGRAM p VAR ^:INT;");
        reading.refuses(6, "PROGRAM p CASE a OF ^:");
        reading.refuses(6, "PROGRAM p IF a THEN ELSE ^ELSE");
        reading.refuses(6, "PROGRAM p CASE a OF ELSE ^ELSE");
        reading.refuses(6, "PROGRAM p VAR a AT %IX1 ^AT");
        reading.refuses(6, "PROGRAM p VAR a:INT:=1^:=");
        reading.refuses(6, "PROGRAM p FOR a:=1 TO 2 BY 3 ^BY");
        reading.refuses(6, "PROGRAM p CASE a OF 1..2^..");
        reading.refuses(6, "PROGRAM p CASE a OF -^-");
        reading.refuses(6, "PROGRAM p LADDER RUNG a|^|");
        reading.refuses(6, "PROGRAM p LADDER RUNG /^/");
        reading.refuses(6, "PROGRAM p LADDER RUNG (/^/");
        reading.refuses(6, "PROGRAM p LADDER RUNG a.b^.");
    }
}
