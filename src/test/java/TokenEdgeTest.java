/** Promise 6, TOKENS, at their edges: for each reason of faults 1 to 5 the last that is taken and the first refused. */
public final class TokenEdgeTest {
    private static final int MOST = 8192;
    private static final String PROGRAM = "PROGRAM p x:=";
    private static final String END = ";END_PROGRAM";
    private static final Due due = new Due();
    private static final Reading reading = new Reading(due);

    public static void main(String[] args) {
        blanksAreFourBytes();
        commentsEndBehindTheirTwoBytes();
        commentsWithoutEnd();
        commentsHoldAnyByte();
        blanksPartTokens();
        namesHaveUpTo32Bytes();
        namesAreLettersDigitsAndUnderscores();
        lettersAreAlikeInBothSizes();
        wordsAreNoNames();
        numbersUpTo2147483647();
        numbersBefore16And2();
        numbersWithoutDigits();
        timesWithoutUnits();
        numbersWithMoreBehindThem();
        timesBeginByTWithASignRightBehind();
        placesUpTo255And63();
        placesOtherwise();
        placesWithMoreBehindThem();
        signsTakeAsManyBytesAsTheyCan();
        eachByteAsATokensBeginning();
        textsOf8192Bytes();
        tokensEndWhereTheTextEnds();
        due.end();
    }

    private static void blanksAreFourBytes() {
        for (char blank : new char[] {9, 10, 13, 32}) {
            reading.reads(blank + "PROGRAM" + blank + "p" + blank + blank + "END_PROGRAM" + blank);
        }
        for (char other : new char[] {0, 8, 11, 12, 14, 31, 33, 127, 128, 137, 138, 141, 160, 255}) {
            reading.refuses(1, "PROGRAM^" + other + "p END_PROGRAM");
            reading.refuses(1, "^" + other);
            reading.refuses(1, "PROGRAM p END_PROGRAM^" + other);
        }
    }

    private static void commentsEndBehindTheirTwoBytes() {
        for (String comment : new String[] {"(**)", "(* *)", "(***)", "(****)", "(*)*)", "(*(*)", "(*(**)", "(*))*)"}) {
            reading.reads(comment);
            reading.reads("PROGRAM" + comment + "p" + comment + comment + "END_PROGRAM" + comment);
        }
        // The next *) ends it, whatever began within.
        reading.refuses(6, "(* (* *) ^*)");
        reading.refuses(6, "(**)^*)");
        reading.refuses(6, "(**)^)");
        reading.refuses(6, "^( * *)");
        reading.refuses(6, "^*)");
        reading.refuses(2, "(**)^(* * )");
    }

    private static void commentsWithoutEnd() {
        for (String comment : new String[] {"(*", "(*)", "(**", "(* *", "(* )", "(* * )", "(*)(*", "(* x := 1;\n"}) {
            reading.refuses(2, "^" + comment);
            reading.refuses(2, " \t^" + comment);
            reading.refuses(2, "PROGRAM ^" + comment);
            reading.refuses(2, "PROGRAM p x:=1^" + comment);
            reading.refuses(2, "PROGRAM p END_PROGRAM^" + comment);
        }
        // What comes before it is told first.
        reading.refuses(6, "^x (*");
        reading.refuses(1, "^@(*");
        reading.refuses(2, "PROGRAM p (* *) x ^(* *");
    }

    private static void commentsHoldAnyByte() {
        for (char c = 0; c < 256; c++) {
            reading.reads("(*" + c + "*)PROGRAM(* " + c + "*)p(*" + c + " *)END_PROGRAM");
        }
        reading.reads("(*" + "abcdefghijklmnopqrstuvwxyz_0123456789 16# T# %IX256 99999999999" + "*)");
    }

    private static void blanksPartTokens() {
        for (String blank : new String[] {" ", "\n", "(**)"}) {
            reading.refuses(6, "^PRO" + blank + "GRAM p END_PROGRAM");
            reading.refuses(6, "PROGRAM p x:=1" + blank + "^2;END_PROGRAM");
            reading.refuses(6, "PROGRAM p x^:" + blank + "=1;END_PROGRAM");
            reading.refuses(6, "PROGRAM p x:=a<" + blank + "^=b;END_PROGRAM");
            reading.refuses(1, "PROGRAM p x:=16" + blank + "^#1;END_PROGRAM");
            reading.refuses(1, "PROGRAM p x:=T" + blank + "^#1S;END_PROGRAM");
            reading.refuses(4, "PROGRAM p x:=^T#1" + blank + "S;END_PROGRAM");
            reading.refuses(4, "PROGRAM p x:=^16#" + blank + "1;END_PROGRAM");
            reading.refuses(5, "PROGRAM p VAR a AT ^%" + blank + "IX1:INT;END_VAR END_PROGRAM");
            reading.refuses(5, "PROGRAM p VAR a AT ^%I" + blank + "X1:INT;END_VAR END_PROGRAM");
            reading.refuses(5, "PROGRAM p VAR a AT ^%IX" + blank + "1:INT;END_VAR END_PROGRAM");
        }
    }

    private static void namesHaveUpTo32Bytes() {
        for (String first : new String[] {"a", "Z", "_", "T", "END_FUNCTION_BLOCK", "IF"}) {
            for (String more : new String[] {"a", "9", "_", "Z"}) {
                String longest = first + more.repeat(32 - first.length());
                reading.reads("PROGRAM " + longest + " END_PROGRAM");
                due.is(longest, new Probe("PROGRAM " + longest + " END_PROGRAM").namesInOrder(),
                    longest.toUpperCase() + "\n");
                reading.refuses(3, "PROGRAM ^" + longest + more + " END_PROGRAM");
                reading.refuses(3, "PROGRAM ^" + longest + more);
                // It is badly written where no name could come, too.
                reading.refuses(3, "^" + longest + more);
                reading.refuses(3, "PROGRAM p x:=1 ^" + longest + more);
                reading.refuses(6, "PROGRAM p x:=1 ^" + longest);
            }
        }
        String thirtyOne = "a".repeat(31);
        Probe probe = new Probe("PROGRAM " + thirtyOne + "b " + thirtyOne + "c:=" + thirtyOne + ";END_PROGRAM");
        String great = thirtyOne.toUpperCase();
        due.is("names of 31 and 32", probe.namesInOrder(), great + "B\n" + great + "C\n" + great + "\n");
        reading.refuses(3, "^" + "a".repeat(64));
        reading.refuses(3, "^" + "a".repeat(MOST));
    }

    private static void namesAreLettersDigitsAndUnderscores() {
        for (char c = 0; c < 256; c++) {
            boolean digit = c >= '0' && c <= '9';
            boolean letter = c >= 'a' && c <= 'z' || c >= 'A' && c <= 'Z' || c == '_';
            if (letter || digit) {
                reading.reads("PROGRAM p" + c + " END_PROGRAM");
                reading.reads("PROGRAM p" + c + "q END_PROGRAM");
            }
            if (letter) {
                reading.reads("PROGRAM " + c + " END_PROGRAM");
                reading.reads("PROGRAM " + c + "9 END_PROGRAM");
            }
            if (digit) {
                reading.refuses(6, "PROGRAM ^" + c + " END_PROGRAM");
                reading.refuses(4, "PROGRAM ^" + c + "q END_PROGRAM");
            }
        }
    }

    private static void lettersAreAlikeInBothSizes() {
        String letters = "abcdefghijklmnopqrstuvwxyz";
        for (char c : letters.toCharArray()) {
            char great = Character.toUpperCase(c);
            Probe probe = new Probe("PROGRAM x" + c + " X" + great + ":=x" + great + "+X" + c + ";END_PROGRAM");
            due.is("names of " + c, probe.namesInOrder(), "X" + great + "\n");
        }
        due.is("great letters", new Probe("PROGRAM " + letters + "_09 END_PROGRAM").namesInOrder(),
            letters.toUpperCase() + "_09\n");
        // Bytes that are 32 apart without being letters are not alike.
        due.is("_ and DEL", new Probe("PROGRAM _ x:=\u007f").answer(), "fault 1 at 13");
        due.is("[ and {", new Probe("PROGRAM p x{1]:=1;").answer(), "fault 1 at 11");
        number("16#abcdef", 0xABCDEF);
        number("16#ABCDEF", 0xABCDEF);
        number("t#1ms", 1);
        number("T#1Ms", 1);
        number("t#1mS", 1);
        place("%ix1", 1);
        place("%Mw1", 1281);
        place("%qX1", 257);
    }

    private static void wordsAreNoNames() {
        for (String word : Model.WORDS) {
            String small = word.toLowerCase();
            for (String form : new String[] {word, small, word.charAt(0) + small.substring(1)}) {
                reading.refuses(6, "PROGRAM ^" + form + " END_PROGRAM");
            }
            for (String name : new String[] {word + "_", "_" + word, word + "0", word + "S", "Q" + word}) {
                due.is(name, new Probe("PROGRAM " + name + " END_PROGRAM").namesInOrder(), name + "\n");
            }
            String less = word.substring(0, word.length() - 1);
            if (!Model.WORDS.contains(less)) {
                due.is(less, new Probe("PROGRAM " + less + " END_PROGRAM").namesInOrder(), less + "\n");
            }
        }
        String words = "PROGRAM p VAR VAR_x:INT;END_VAR IF TRUE THEN EXIT;END_IF;END_PROGRAM";
        due.is("names among words", new Probe(words).namesInOrder(), "P\nVAR_X\n");
    }

    /** Taken with this value. */
    private static void number(String number, int want) {
        Probe probe = new Probe(PROGRAM + number + END);
        due.is(number, probe.answer(), "read");
        due.is(number + ": its node", probe.node(5, 0) + " " + probe.node(5, 1), "30 " + PROGRAM.length());
        due.is(number + ": its value", probe.node(5, 2), want);
        Probe constant = new Probe("PROGRAM p VAR a:INT:=-" + number + ";END_VAR END_PROGRAM");
        due.is("-" + number, constant.node(6, 2), -want);
    }

    /** Fault 4, be it followed by more or by the text's end. */
    private static void noNumber(String number) {
        reading.refuses(4, PROGRAM + "^" + number + END);
        reading.refuses(4, PROGRAM + "^" + number);
        reading.refuses(4, PROGRAM + "(a+ ^" + number + " )");
        reading.refuses(4, "^" + number);
    }

    private static void numbersUpTo2147483647() {
        number("0", 0);
        number("2147483646", 2147483646);
        number("2147483647", 2147483647);
        noNumber("2147483648");
        noNumber("4294967295");
        noNumber("4294967296");
        noNumber("9223372036854775807");
        noNumber("9223372036854775808");
        noNumber("18446744073709551616");
        noNumber("18446744073709551617");
        number("0".repeat(50) + "2147483647", 2147483647);
        noNumber("0".repeat(50) + "2147483648");
        number("16#7FFFFFFF", 2147483647);
        noNumber("16#80000000");
        noNumber("16#FFFFFFFF");
        noNumber("16#100000000");
        noNumber("16#10000000000000000");
        number("16#" + "0".repeat(50) + "7fffffff", 2147483647);
        noNumber("16#" + "0".repeat(50) + "80000000");
        number("2#" + "1".repeat(31), 2147483647);
        noNumber("2#1" + "0".repeat(31));
        noNumber("2#" + "1".repeat(32));
        noNumber("2#1" + "0".repeat(64));
        number("2#" + "0".repeat(50) + "1".repeat(31), 2147483647);
        timesUpTo2147483647();
    }

    private static void timesUpTo2147483647() {
        number("T#0MS", 0);
        number("T#2147483647MS", 2147483647);
        noNumber("T#2147483648MS");
        number("T#0S", 0);
        number("T#1S", 1000);
        number("T#2147483S", 2147483000);
        noNumber("T#2147484S");
        number("T#0M", 0);
        number("T#1M", 60000);
        number("T#35791M", 2147460000);
        noNumber("T#35792M");
        number("T#0H", 0);
        number("T#1H", 3600000);
        number("T#596H", 2145600000);
        noNumber("T#597H");
        // Their products are small again where 32 or 64 bits wrap around.
        noNumber("T#4294968S");
        noNumber("T#71583M");
        noNumber("T#1194H");
        noNumber("T#18446744073709552S");
        noNumber("T#307445734561826M");
        noNumber("T#5124095576031H");
        noNumber("T#18446744073709551617MS");
        number("T#" + "0".repeat(50) + "596H", 2145600000);
        noNumber("T#" + "0".repeat(50) + "597H");
    }

    private static void numbersBefore16And2() {
        number("16#1", 1);
        number("2#1", 1);
        number("016#1F", 31);
        number("0000000000000000000000000002#11", 3);
        String others = "0 1 3 4 8 10 15 17 20 22 32 160 162 216 00 4294967298 4294967312 18446744073709551618";
        for (String before : others.split(" ")) {
            noNumber(before + "#1");
            noNumber(before + "#");
        }
        reading.refuses(1, PROGRAM + "16#1^#1" + END);
        reading.refuses(1, PROGRAM + "2#1^#1" + END);
    }

    private static void numbersWithoutDigits() {
        for (String behind : new String[] {"", "G", "g", "_", "_1", ".1", "#1", "-1", "+1", " 1"}) {
            noNumber("16#" + behind);
            noNumber("2#" + behind);
        }
        noNumber("2#2");
        noNumber("2#9");
        noNumber("2#A");
        for (char digit : "0123456789ABCDEFabcdef".toCharArray()) {
            number("16#" + digit, Character.digit(digit, 16));
        }
        number("2#0", 0);
        for (char other : "/:@G`g".toCharArray()) {
            noNumber("16#" + other);
        }
        for (String behind : new String[] {"", "MS", "S", "_1S", "-1S", "#1S", " 1S", "A"}) {
            noNumber("T#" + behind);
            noNumber("t#" + behind);
        }
    }

    private static void timesWithoutUnits() {
        String[] others = {"", "D", "X", "_", "A", "U", "NS", "US", "#", " MS", "\nS", ".5S", "(**)H", "-"};
        for (String behind : others) {
            noNumber("T#5" + behind);
            noNumber("T#0" + behind);
            noNumber("T#2147483647" + behind);
        }
        noNumber("T#16#5S");
        for (char unit = 'A'; unit <= 'Z'; unit++) {
            boolean known = unit == 'S' || unit == 'M' || unit == 'H';
            if (known) {
                number("T#2" + unit, unit == 'S' ? 2000 : unit == 'M' ? 120000 : 7200000);
            } else {
                noNumber("T#0" + unit);
                noNumber("T#2" + unit);
                noNumber("T#2" + Character.toLowerCase(unit));
                noNumber("T#2M" + unit);
            }
        }
    }

    private static void numbersWithMoreBehindThem() {
        String letters = "GXZgxz_";
        for (String number : new String[] {"1", "0", "2147483647", "16#1", "2#1", "T#1MS", "T#1S", "T#1M", "T#1H"}) {
            for (char behind : letters.toCharArray()) {
                noNumber(number + behind);
                noNumber(number + behind + "1");
            }
            for (char behind : "+-*/=<>&)],;:.|(@".toCharArray()) {
                String answer = new Probe(PROGRAM + number + behind).answer();
                due.is(number + behind, answer.startsWith("fault 4") ? answer : "taken", "taken");
            }
        }
        for (char digit : "23456789".toCharArray()) {
            noNumber("2#1" + digit);
        }
        for (char digit : "0123456789".toCharArray()) {
            noNumber("T#1MS" + digit);
            noNumber("T#1S" + digit);
            noNumber("T#1M" + digit);
            noNumber("T#1H" + digit);
        }
        noNumber("1A");
        noNumber("1e5");
        noNumber("0x1");
        noNumber("T#1HS");
        noNumber("T#1SM");
        noNumber("T#1MSS");
        noNumber("T#1MH");
        noNumber("T#1H2M");
    }

    private static void timesBeginByTWithASignRightBehind() {
        number("T#1S", 1000);
        number("t#1S", 1000);
        reading.reads("PROGRAM T t:=T;END_PROGRAM");
        reading.refuses(1, PROGRAM + "T ^#1S" + END);
        reading.refuses(1, PROGRAM + "TT^#1S" + END);
        reading.refuses(1, PROGRAM + "_T^#1S" + END);
        reading.refuses(1, PROGRAM + "T_^#1S" + END);
        reading.refuses(1, PROGRAM + "T1^#1S" + END);
        reading.refuses(1, PROGRAM + "S^#1S" + END);
        reading.refuses(1, PROGRAM + "U^#1S" + END);
        reading.refuses(6, PROGRAM + "NOT ^AT" + END);
        reading.refuses(6, "PROGRAM ^T#1S END_PROGRAM");
        reading.refuses(4, "PROGRAM ^T# END_PROGRAM");
        reading.refuses(4, PROGRAM + "^5T#1S" + END);
    }

    private static void place(String place, int want) {
        String before = "PROGRAM p VAR a AT ";
        Probe probe = new Probe(before + place + ":INT;END_VAR END_PROGRAM");
        due.is(place, probe.answer(), "read");
        due.is(place + ": its node", probe.node(5, 0) + " " + probe.node(5, 1), "7 " + before.length());
        due.is(place + ": its value", probe.node(5, 2), want);
    }

    private static void noPlace(String place) {
        reading.refuses(5, "PROGRAM p VAR a AT ^" + place + ":INT;END_VAR END_PROGRAM");
        reading.refuses(5, "PROGRAM p VAR a AT ^" + place);
        // It is badly written where no place could come, too.
        reading.refuses(5, "PROGRAM ^" + place + ";");
        reading.refuses(5, "^" + place);
    }

    private static void placesUpTo255And63() {
        String[] rows = {"IX", "QX", "MX", "IW", "QW", "MW"};
        for (int row = 0; row < rows.length; row++) {
            int most = row < 3 ? 255 : 63;
            for (String letters : new String[] {rows[row], rows[row].toLowerCase()}) {
                for (int number : new int[] {0, 1, 9, 10, most - 1, most}) {
                    place("%" + letters + number, 256 * row + number);
                }
                place("%" + letters + "0".repeat(40) + most, 256 * row + most);
                for (long number : new long[] {most + 1, most + 2, 256, 999, 4294967296L, 4294967297L}) {
                    noPlace("%" + letters + number);
                }
                noPlace("%" + letters + Long.MAX_VALUE);
                noPlace("%" + letters + "18446744073709551616");
                noPlace("%" + letters + "0".repeat(40) + (most + 1));
            }
        }
        place("%IX64", 64);
        reading.refuses(6, "^%IX255");
        reading.refuses(6, "PROGRAM ^%MW63");
    }

    private static void placesOtherwise() {
        for (String row : new String[] {"IX", "QX", "MX", "IW", "QW", "MW"}) {
            for (String behind : new String[] {"", "_1", "-1", ".1", "A1", "#1", " 1", "%1"}) {
                noPlace("%" + row + behind);
            }
            noPlace("%" + row.charAt(0) + "1");
            noPlace("%" + row.charAt(1) + "1");
            noPlace("%" + row.charAt(1) + row.charAt(0) + "1");
            noPlace("%" + row.charAt(0) + row + "1");
            noPlace("%%" + row + "1");
        }
        for (char letter = 'A'; letter <= 'Z'; letter++) {
            if ("IQM".indexOf(letter) < 0) {
                noPlace("%" + letter + "X1");
                noPlace("%" + letter + "W1");
            }
            if ("XW".indexOf(letter) < 0) {
                noPlace("%I" + letter + "1");
                noPlace("%q" + letter + "1");
                noPlace("%M" + Character.toLowerCase(letter) + "1");
            }
        }
        noPlace("%");
        noPlace("%1");
        noPlace("% IX1");
    }

    private static void placesWithMoreBehindThem() {
        for (String place : new String[] {"%IX0", "%MX255", "%QW63"}) {
            for (String behind : new String[] {"a", "Z", "_", "_1", "x0", "e"}) {
                noPlace(place + behind);
            }
            reading.refuses(6, "PROGRAM p VAR a AT " + place + "^.0:BOOL;");
            reading.refuses(6, "PROGRAM p VAR a AT " + place + "^,b:BOOL;");
            reading.refuses(1, "PROGRAM p VAR a AT " + place + "^#:BOOL;");
            reading.reads("PROGRAM p VAR a AT" + place + ":BOOL;END_VAR END_PROGRAM");
        }
    }

    private static void signsTakeAsManyBytesAsTheyCan() {
        reading.reads("PROGRAM p x:=a<=b;x:=a>=b;x:=a<>b;CASE a OF 1..2:END_CASE;END_PROGRAM");
        reading.refuses(6, "PROGRAM p x:=a<=^=b;");
        reading.refuses(6, "PROGRAM p x:=a<>^=b;");
        reading.refuses(6, "PROGRAM p x:=a>^>b;");
        reading.refuses(6, "PROGRAM p x:=a<^<b;");
        reading.refuses(6, "PROGRAM p x:=a=^=b;");
        reading.refuses(6, "PROGRAM p x^::=a;");
        reading.refuses(6, "PROGRAM p CASE a OF 1..^.2:");
        reading.refuses(6, "PROGRAM p CASE a OF 1..^..2:");
        reading.refuses(6, "PROGRAM p x:=a^..b;");
        reading.refuses(6, "PROGRAM p LADDER RUNG a^..b;");
        reading.refuses(6, "PROGRAM p LADDER RUNG a^<>b;");
        reading.refuses(6, "PROGRAM p LADDER RUNG a^<=b;");
        reading.refuses(6, "PROGRAM p LADDER RUNG a> ^=b;");
        reading.refuses(6, "PROGRAM p VAR a:INT^: =5;");
        reading.refuses(2, "PROGRAM p x:=a^(*b);");
        reading.refuses(2, "PROGRAM p LADDER RUNG ^(*a);");
    }

    private static void eachByteAsATokensBeginning() {
        String signs = "()[],;:.+-*/=<>&|";
        for (char first = 0; first < 256; first++) {
            boolean blank = first == 9 || first == 10 || first == 13 || first == 32;
            boolean begins = signs.indexOf(first) >= 0 || Character.toString(first).matches("[A-Za-z0-9_]");
            String want = blank ? "read" : first == '%' ? "fault 5 at 0" : begins ? "fault 6 at 0" : "fault 1 at 0";
            reading.is("" + first, want);
            reading.is(first + " ", want);
            // No text of the grammar begins with one of these, but a block may come behind the blanks.
            reading.is(first + " PROGRAM p END_PROGRAM", want);
        }
    }

    /** Tokens that end, or don't, at the last byte that a text can have. */
    private static void textsOf8192Bytes() {
        String[] last = {"END_PROGRAM", "END_PROGRA", "END_PROGRAM(**)", "END_PROGRAM (*", "END_PROGRAM (*)",
            "END_PROGRAM(* *", "x:", "x:=", "x:=T", "x:=T#", "x:=T#1", "x:=T#1M", "x:=T#1MS", "x:=T#1S", "x:=16",
            "x:=16#", "x:=16#F", "x:=2#1", "x:=2#2", "x:=1.", "x:=1..", "x:=a<", "x:=a<=", "x:=a>", "x:=(", "x:=%",
            "x:=%I", "x:=%IX", "x:=%IX1", "x:=%IX256", "x:=@", "x:=a.", "END_PROGRAM ", "END_PROGRAM\t", "END_PROGRAM;",
            "END_PROGRAM @", "abcdefghijklmnopqrstuvwxyz_123456", "x:=2147483647", "x:=2147483648"};
        for (String end : last) {
            for (int length : new int[] {MOST - 1, MOST}) {
                String before = "PROGRAM p";
                String text = before + " ".repeat(length - before.length() - end.length()) + end;
                due.is(length + " bytes that end by " + end, new Probe(text).answer(), new Model(text).answer());
            }
        }
        due.is("8192 blanks", new Probe(" ".repeat(MOST)).answer(), "read");
        due.is("8192 bytes of a comment", new Probe("(*" + "x".repeat(MOST - 4) + "*)").answer(), "read");
        due.is("a comment's end is cut off", new Probe("(*" + "x".repeat(MOST - 3) + "*").answer(), "fault 2 at 0");
        String whole = "PROGRAM p" + ";".repeat(MOST - 20) + "END_PROGRAM";
        due.is("END_PROGRAM at the end", new Probe(whole).answer(), "read");
        due.is("no END_PROGRAM", new Probe("PROGRAM p" + ";".repeat(MOST - 9)).answer(), "fault 6 at 8192");
        due.is("a bad last byte", new Probe("PROGRAM p" + ";".repeat(MOST - 10) + "?").answer(), "fault 1 at 8191");
    }

    /** What was behind the text's end before end() is no part of it. */
    private static void tokensEndWhereTheTextEnds() {
        String text = "PROGRAM p VAR a AT %QW12:INT:=16#1F;END_VAR (* c *) x:=T#15MS+2#10<=b<>a;"
            + "CASE a OF 1..2:END_CASE;END_PROGRAM(***)";
        for (int length = 0; length <= text.length(); length++) {
            String left = text.substring(0, length);
            Calls read = cut(text + " ".repeat(40), length).read();
            Model model = new Model(left);
            due.is(left + "\nread() behind end()", read.answer(), model.fault);
            due.is(left + "\nits place", read.then(x -> x.count(1)).answer(), model.place);
            due.is(left + "\nits tree", read.tree(), model.treeLines());
        }
    }

    private static Calls cut(String text, int length) {
        Calls calls = new Calls().withText(text);
        int less = text.length() - length;
        calls = calls.then(x -> x.end(20 - less % 20));
        for (int i = 0; i < less / 20; i++) {
            calls = calls.then(x -> x.end(0));
        }
        due.is("cut", calls.answer(), length);
        return calls;
    }
}
