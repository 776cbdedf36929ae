/** Promise 6, TOKENS: blanks, names, numbers, places and signs, and faults 1 to 5. */
public final class TokenTest {
    private static final Due due = new Due();
    private static final Reading reading = new Reading(due);
    private static final String BEFORE = "PROGRAM p x:=";
    private static final String BEHIND = ";END_PROGRAM";

    public static void main(String[] args) {
        blanks();
        names();
        words();
        numbers();
        badNumbers();
        places();
        badPlaces();
        signs();
        otherBytes();
        firstFault();
        due.end();
    }

    private static void blanks() {
        reading.is("", "read");
        reading.is(" \t\r\n", "read");
        reading.is("(**)", "read");
        reading.is("(* *)(***)(****)(* ( * *)", "read");
        reading.is("(*)", "fault 2 at 0");
        reading.is("  (*)*", "fault 2 at 2");
        reading.is("(*)*)", "read");
        reading.is("(* (* *)", "read");
        reading.is("(* (* *) *)", "fault 6 at 9");
        reading.is("(*", "fault 2 at 0");
        reading.is("(* *", "fault 2 at 0");
        reading.is("(**) (* )", "fault 2 at 5");
        reading.is("PROGRAM(**)p(* @ 12a *)END_PROGRAM", "read");
        reading.is("PRO(**)GRAM p END_PROGRAM", "fault 6 at 0");
        reading.is("PROGRAM\u000bp END_PROGRAM", "fault 1 at 7");
        reading.is("PROGRAM\fp END_PROGRAM", "fault 1 at 7");
        reading.is("PROGRAM p x:=( *a);END_PROGRAM", "fault 6 at 15");
        reading.is("PROGRAM p x:=(*a);END_PROGRAM", "fault 2 at 13");
    }

    private static void names() {
        String longest = "abcdefghijklmnopqrstuvwxyz_12345";
        reading.is("PROGRAM " + longest + " END_PROGRAM", "read");
        reading.is("PROGRAM " + longest + "6 END_PROGRAM", "fault 3 at 8");
        reading.is("PROGRAM " + longest + longest + longest, "fault 3 at 8");
        reading.is("PROGRAM p " + longest + "6", "fault 3 at 10");
        reading.is("PROGRAM _ END_PROGRAM", "read");
        reading.is("PROGRAM _9 END_PROGRAM", "read");
        Probe probe = new Probe("PROGRAM aZ_09 az_09:=Az_09+b;B:=az_0;END_PROGRAM");
        due.is("names", probe.namesInOrder(), "AZ_09\nB\nAZ_0\n");
        due.is(longest, new Probe("PROGRAM " + longest + " END_PROGRAM").namesInOrder(), longest.toUpperCase() + "\n");
    }

    private static void words() {
        String words = "FUNCTION END_FUNCTION FUNCTION_BLOCK END_FUNCTION_BLOCK PROGRAM END_PROGRAM VAR VAR_INPUT "
            + "VAR_OUTPUT END_VAR AT BOOL INT DINT ARRAY OF IF THEN ELSIF ELSE END_IF CASE END_CASE FOR TO BY DO "
            + "END_FOR EXIT RETURN OR XOR AND MOD NOT TRUE FALSE LADDER END_LADDER RUNG END_RUNG";
        for (String word : words.split(" ")) {
            reading.is("PROGRAM " + word, "fault 6 at 8");
            reading.is("PROGRAM " + word.toLowerCase(), "fault 6 at 8");
            reading.is("PROGRAM " + word.charAt(0) + word.substring(1).toLowerCase(), "fault 6 at 8");
            reading.is("PROGRAM " + word + "_ END_PROGRAM", "read");
            reading.is("PROGRAM _" + word + " END_PROGRAM", "read");
            reading.is("PROGRAM " + word + "1 END_PROGRAM", "read");
        }
        for (String name : "REAL WHILE END VAR_IN TYPE BLOCK RUNGS SINT T MS".split(" ")) {
            reading.is("PROGRAM " + name + " END_PROGRAM", "read");
        }
        reading.is("program p if a then end_if; End_Program", "read");
    }

    /** The value of the number is that of node 5. */
    private static void number(String number, int want) {
        Probe probe = new Probe(BEFORE + number + BEHIND);
        due.is(number, probe.answer(), "read");
        due.is(number + ": kind", probe.node(5, 0), 30);
        due.is(number + ": place", probe.node(5, 1), BEFORE.length());
        due.is(number + ": value", probe.node(5, 2), want);
    }

    private static void numbers() {
        number("0", 0);
        number("0000000000000000000012", 12);
        number("2147483647", 2147483647);
        number("16#0", 0);
        number("16#7FFFFFFF", 2147483647);
        number("16#7fffFfFf", 2147483647);
        number("16#000000000000aBcDeF", 0xABCDEF);
        number("0016#10", 16);
        number("2#0", 0);
        number("2#1111111111111111111111111111111", 2147483647);
        number("02#101", 5);
        number("T#0MS", 0);
        number("T#7ms", 7);
        number("t#7Ms", 7);
        number("t#7mS", 7);
        number("T#7S", 7000);
        number("t#7s", 7000);
        number("T#7M", 420000);
        number("t#7m", 420000);
        number("T#7H", 25200000);
        number("t#7h", 25200000);
        number("T#2147483647MS", 2147483647);
        number("T#2147483S", 2147483000);
        number("T#35791M", 2147460000);
        number("T#596H", 2145600000);
        number("T#0000000000000000000596H", 2145600000);
    }

    private static void badNumbers() {
        String bad = "2147483648 99999999999999999999999999 4294967297 12a 12A 1_ 0x1 1.e 16# 16#G 16#1G 16#1_ 16#_1 "
            + "16#80000000 16#100000000 2#2 2# 2#12 2#1A 2#10000000000000000000000000000000 3#1 10#1 0#1 8#7 1#1 160#1 "
            + "4294967312#1 4294967298#1 18446744073709551618#1 T# T#MS T#5 T#5X T#5D T#5MSS T#5MS1 T#5S1 T#5M_ T#5HH "
            + "T#1H30M T#16#1MS T#_5MS T#-5MS T#2147483648MS T#2147484S T#35792M T#597H T#99999999999999999999H t#1";
        for (String number : bad.split(" ")) {
            boolean split = number.equals("1.e");
            reading.is(BEFORE + number + BEHIND, split ? "fault 6 at 14" : "fault 4 at 13");
        }
        reading.is(BEFORE + "T# 5MS" + BEHIND, "fault 4 at 13");
        reading.is(BEFORE + "T#5 MS" + BEHIND, "fault 4 at 13");
        reading.is(BEFORE + "T #5MS" + BEHIND, "fault 1 at 15");
        reading.is(BEFORE + "16 #1" + BEHIND, "fault 1 at 16");
        reading.is(BEFORE + "16# 1" + BEHIND, "fault 4 at 13");
        reading.is(BEFORE + "XT#5MS" + BEHIND, "fault 1 at 15");
        reading.is(BEFORE + "_T#5MS" + BEHIND, "fault 1 at 15");
        reading.is(BEFORE + "T1#5MS" + BEHIND, "fault 1 at 15");
        reading.is(BEFORE + "1#", "fault 4 at 13");
        reading.is(BEFORE + "16#", "fault 4 at 13");
        reading.is(BEFORE + "T#", "fault 4 at 13");
        reading.is(BEFORE + "T#5M", "fault 6 at 17");
        reading.is(BEFORE + "16#FF#1" + BEHIND, "fault 1 at 18");
        reading.is(BEFORE + "T#5MS#" + BEHIND, "fault 1 at 18");
        reading.is("T#5MS", "fault 6 at 0");
        reading.is("T#5", "fault 4 at 0");
    }

    private static void place(String place, int want) {
        String before = "PROGRAM p VAR a AT ";
        Probe probe = new Probe(before + place + ":INT;END_VAR END_PROGRAM");
        due.is(place, probe.answer(), "read");
        due.is(place + ": kind", probe.node(5, 0), 7);
        due.is(place + ": place", probe.node(5, 1), before.length());
        due.is(place + ": value", probe.node(5, 2), want);
    }

    private static void places() {
        place("%IX0", 0);
        place("%IX255", 255);
        place("%qx3", 259);
        place("%Mx000000000000000000255", 767);
        place("%IW0", 768);
        place("%iW63", 831);
        place("%Qw63", 1087);
        place("%mw063", 1343);
    }

    private static void badPlaces() {
        String bad = "%IX256 %QX256 %MX256 %IW64 %QW64 %MW64 %IX %IW %I %X1 % %IB1 %AX1 %ID1 %XI1 %IX1a %IX1_ %IX_1 "
            + "%IX4294967296 %IW18446744073709551616 %IX-1 %%IX1 %IX1A %1 %IXX1";
        for (String place : bad.split(" ")) {
            reading.is("PROGRAM p VAR a AT " + place + ":INT;END_VAR END_PROGRAM", "fault 5 at 19");
            reading.is("PROGRAM p VAR a AT " + place, "fault 5 at 19");
        }
        reading.is("PROGRAM p VAR a AT % IX1", "fault 5 at 19");
        reading.is("PROGRAM p VAR a AT %IX 1", "fault 5 at 19");
        reading.is("PROGRAM p VAR a AT %I(**)X1", "fault 5 at 19");
        reading.is("PROGRAM p VAR a AT %IX1.2", "fault 6 at 23");
    }

    private static void signs() {
        reading.is("PROGRAM p x:=a<=b>=c<>d<e>f=g+h-i*j/k&l;END_PROGRAM", "read");
        reading.is("PROGRAM p x: =a;END_PROGRAM", "fault 6 at 11");
        reading.is("PROGRAM p x:=a< =b;END_PROGRAM", "fault 6 at 16");
        reading.is("PROGRAM p x:=a> =b;END_PROGRAM", "fault 6 at 16");
        reading.is("PROGRAM p x:=a< >b;END_PROGRAM", "fault 6 at 16");
        reading.is("PROGRAM p x:=a><b;END_PROGRAM", "fault 6 at 15");
        reading.is("PROGRAM p x:=a=<b;END_PROGRAM", "fault 6 at 15");
        reading.is("PROGRAM p x:==a;END_PROGRAM", "fault 6 at 13");
        reading.is("PROGRAM p x:=a...b;END_PROGRAM", "fault 6 at 14");
        reading.is("PROGRAM p CASE x OF 1..2:END_CASE;END_PROGRAM", "read");
        reading.is("PROGRAM p CASE x OF 1 . .2:END_CASE;END_PROGRAM", "fault 6 at 22");
        reading.is("PROGRAM p CASE x OF 1...2:END_CASE;END_PROGRAM", "fault 6 at 23");
        reading.is("PROGRAM p LADDER RUNG>a<b|/c*-(x);END_RUNG END_LADDER END_PROGRAM", "read");
        reading.is("PROGRAM p LADDER RUNG><b;END_RUNG END_LADDER END_PROGRAM", "fault 6 at 22");
        reading.is("PROGRAM p LADDER RUNG<>b;END_RUNG END_LADDER END_PROGRAM", "fault 6 at 21");
    }

    private static void otherBytes() {
        String right = "\t\n\r ";
        String first = "()[],;:.+-*/=<>&|%_";
        for (char c = 0; c < 256; c++) {
            boolean letter = c >= 'a' && c <= 'z' || c >= 'A' && c <= 'Z' || c >= '0' && c <= '9';
            if (right.indexOf(c) >= 0) {
                reading.is("PROGRAM p " + c + "END_PROGRAM", "read");
            } else if (!letter && first.indexOf(c) < 0) {
                reading.is("PROGRAM p " + c + "END_PROGRAM", "fault 1 at 10");
                reading.is("PROGRAM p" + c + " END_PROGRAM", "fault 1 at 9");
            } else if (c != ';' && c != '%' && c != '_' && !letter) {
                reading.is("PROGRAM p " + c + " END_PROGRAM", "fault 6 at 10");
            }
        }
    }

    private static void firstFault() {
        reading.is("x @ 12a", "fault 6 at 0");
        reading.is("@ x", "fault 1 at 0");
        reading.is("PROGRAM 12a", "fault 4 at 8");
        reading.is("PROGRAM %IX256", "fault 5 at 8");
        reading.is("PROGRAM p q (*", "fault 2 at 12");
        reading.is("PROGRAM p 5 (*", "fault 6 at 10");
        reading.is("PROGRAM p x:=1; 5 @", "fault 6 at 16");
        reading.is("PROGRAM p (* end *) x:=1 @ ;", "fault 1 at 25");
        reading.is("PROGRAM p END_PROGRAM (*", "fault 2 at 22");
        reading.is("PROGRAM p END_PROGRAM #", "fault 1 at 22");
    }
}
