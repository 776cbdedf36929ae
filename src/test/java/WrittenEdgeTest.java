/** Promises 10, 11 and 12 at their edges: what is written where, and what is refused. */
public final class WrittenEdgeTest {
    private static final int MIN = Integer.MIN_VALUE;
    private static final int MAX = Integer.MAX_VALUE;
    private static final int MOST = 8192;
    private static final String SMALL = "program p x:=y+1;end_program";
    private static final Due due = new Due();
    private static final Edges edges = new Edges(due);

    private static final String[][] SIGNS = {
        {"OR"}, {"XOR"}, {"&"}, {"=", "<>"}, {"<", ">", "<=", ">="}, {"+", "-"}, {"*", "/", "MOD"},
    };

    public static void main(String[] args) {
        writeWithoutATree();
        writeWhileTheTreeIsAtHand();
        writeOfNoBlock();
        bracketsAroundTwoInTwo();
        bracketsAroundTwoInOne();
        noOtherBrackets();
        blanksBetweenWordsAndNames();
        blanksBetweenLettersDigitsAndUnderscores();
        numbersByDecimalDigits();
        noSemicolonAlone();
        firstAndLastByte();
        bytesThatAreNot();
        bytesOfWhatWasWrittenEarlier();
        bytesAbove8192();
        backWithNothingWritten();
        backOfZeroBytes();
        backUpTo8192();
        backChangesTheTextAlone();
        due.end();
    }

    private static Calls read(String text) {
        return new Calls().withText(text).read();
    }

    private static void writeWithoutATree() {
        edges.refused("write() at first", new Calls(), ControlText::write);
        edges.refused("write() of what was not read", new Calls().withText(SMALL), ControlText::write);
        String[] faulty = {"@", "(*", "a".repeat(33), "5x", "%", "x", "PROGRAM p x:=" + "-".repeat(61)};
        for (String text : faulty) {
            edges.refused("write() with a fault", read(text), ControlText::write);
            Calls written = read(SMALL).write().withText(text).read();
            edges.refused("write() with a fault, written before", written, ControlText::write);
            due.is("what was written last stays", written.write().written(), SMALL.toUpperCase());
            Calls nothing = new Calls().read().write().withText(text).read();
            edges.refused("write() with a fault, nothing written before", nothing, ControlText::write);
        }
    }

    private static void writeWhileTheTreeIsAtHand() {
        Calls calls = read(SMALL);
        Calls[] behind = {calls, calls.then(ControlText::clear), calls.then(x -> x.feed(-1, -1, -1, -1, -1)),
            calls.then(x -> x.end(0)), calls.then(x -> x.change(8, 'q')), calls.write(), calls.then(ControlText::back),
            calls.write().then(ControlText::back), calls.withText("@")};
        for (Calls one : behind) {
            due.is("write()", one.write().answer(), SMALL.length());
            due.is("write()", one.write().written(), SMALL.toUpperCase());
            due.is("write() leaves the text", one.write().text(), one.text());
            due.is("write() leaves the tree", one.write().tree() + one.write().names(), one.tree() + one.names());
        }
        due.is("another tree then", calls.write().withText("PROGRAM Q END_PROGRAM").read().write().written(),
            "PROGRAM Q END_PROGRAM");
    }

    private static void writeOfNoBlock() {
        for (String text : new String[] {"", "   ", "(**)"}) {
            edges.taken("write() of no block", read(text), ControlText::write, 0);
            due.is("what is written then", read(SMALL).write().withText(text).read().write().written(), "");
        }
    }

    /** With a blank where letters would meet. */
    private static String joined(String... tokens) {
        StringBuilder all = new StringBuilder();
        for (String token : tokens) {
            boolean meets = all.length() > 0 && isNameByte(all.charAt(all.length() - 1)) && isNameByte(token.charAt(0));
            all.append(meets ? " " : "").append(token);
        }
        return all.toString();
    }

    private static boolean isNameByte(char c) {
        return Character.isLetterOrDigit(c) || c == '_';
    }

    private static void written(String statements, String want) {
        Calls calls = read("PROGRAM P " + statements + " END_PROGRAM");
        due.is(statements + "\nread()", calls.answer(), 0);
        String whole = joined("PROGRAM P ", want, "END_PROGRAM");
        due.is(statements, calls.write().written(), whole);
        due.is(statements, calls.write().answer(), whole.length());
        Calls again = calls.write().then(ControlText::back).read();
        due.is(want + "\nread() again", again.answer(), 0);
        due.is(want + "\nits tree", withoutPlaces(again.tree()), withoutPlaces(calls.tree()));
        due.is(want + "\nits names", again.names(), calls.names());
        due.is(want + "\nwritten again", again.write().written(), whole);
    }

    private static String withoutPlaces(String tree) {
        return tree.replaceAll("(?m)^(\\d+) \\d+ ", "$1 ");
    }

    private static void bracketsAroundTwoInTwo() {
        for (int outer = 0; outer < SIGNS.length; outer++) {
            for (int inner = 0; inner < SIGNS.length; inner++) {
                for (String around : SIGNS[outer]) {
                    for (String within : SIGNS[inner]) {
                        bracketsAround(around, within, outer > inner, outer >= inner);
                    }
                }
            }
        }
    }

    /** First with brackets in the text, then with those alone that are due. */
    private static void bracketsAround(String around, String within, boolean first, boolean second) {
        String left = first ? joined("X:=", "(", "A", within, "B", ")", around, "C", ";")
            : joined("X:=", "A", within, "B", around, "C", ";");
        written(joined("X:=", "(", "(", "A", within, "B", ")", ")", around, "C", ";"), left);
        written(left, left);
        String right = second ? joined("X:=", "C", around, "(", "A", within, "B", ")", ";")
            : joined("X:=", "C", around, "A", within, "B", ";");
        written(joined("X:=", "C", around, "(", "A", within, "B", ")", ";"), right);
        written(right, right);
    }

    private static void bracketsAroundTwoInOne() {
        for (String[] alike : SIGNS) {
            for (String sign : alike) {
                for (String one : new String[] {"-", "NOT"}) {
                    String two = joined("A", sign, "B");
                    written(joined("X:=", one, "(", two, ")", ";"), joined("X:=", one, "(", two, ")", ";"));
                    // A ONE that is a child of a TWO has none.
                    written(joined("X:=", "(", one, "A", ")", sign, "B", ";"), joined("X:=", one, "A", sign, "B", ";"));
                    written(joined("X:=", "A", sign, "(", one, "B", ")", ";"), joined("X:=", "A", sign, one, "B", ";"));
                }
            }
        }
    }

    private static void noOtherBrackets() {
        for (String operand : new String[] {"A", "5", "TRUE", "A[1]", "A.B", "F()", "F(1,2)", "-A", "NOT A"}) {
            written("X:=((" + operand + "));", joined("X:=", operand, ";"));
            written("X:=-(" + operand + ");", joined("X:=-", operand, ";"));
            written("X:=NOT(" + operand + ");", joined("X:=NOT", operand, ";"));
            written("X:=(" + operand + ")*(" + operand + ");", "X:=" + operand + "*" + operand + ";");
        }
        written("X[(A+B)]:=(C+D);", "X[A+B]:=C+D;");
        written("F(A:=(B+C),D:=(E OR F));", "F(A:=B+C,D:=E OR F);");
        written("X:=F((A+B),(C OR D))*A[(E-G)];", "X:=F(A+B,C OR D)*A[E-G];");
        written("IF(A OR B)THEN ELSIF(C+D)THEN END_IF;", "IF A OR B THEN ELSIF C+D THEN END_IF;");
        written("CASE(A+B)OF END_CASE;", "CASE A+B OF END_CASE;");
    }

    private static void blanksBetweenWordsAndNames() {
        written("LADDER  END_LADDER", "LADDER END_LADDER");
        written("LADDER RUNG A B - C ; END_RUNG RUNG / A ; END_RUNG END_LADDER",
            "LADDER RUNG A B-C;END_RUNG RUNG/A;END_RUNG END_LADDER");
        written("LADDER RUNG ( A ) B > C D < E . F G | H ( + I ) J ; END_RUNG END_LADDER",
            "LADDER RUNG(A)B>C D<E.F G|H(+I)J;END_RUNG END_LADDER");
        written("LADDER RUNG * ; - ; END_RUNG END_LADDER", "LADDER RUNG*;-;END_RUNG END_LADDER");
        written("IF A THEN B := C ; END_IF ;", "IF A THEN B:=C;END_IF;");
        written("IF - A THEN END_IF ;", "IF-A THEN END_IF;");
        written("IF NOT A THEN END_IF ;", "IF NOT A THEN END_IF;");
        written("IF F ( ) THEN ELSIF A [ 1 ] THEN ELSE END_IF ;", "IF F()THEN ELSIF A[1]THEN ELSE END_IF;");
        written("IF ( A + B ) * C THEN EXIT ; ELSE RETURN ; END_IF ;", "IF(A+B)*C THEN EXIT;ELSE RETURN;END_IF;");
        written("IF 1 THEN ELSIF - 1 THEN END_IF ;", "IF 1 THEN ELSIF-1 THEN END_IF;");
        written("IF TRUE THEN END_IF ;", "IF TRUE THEN END_IF;");
        written("CASE A OF END_CASE ;", "CASE A OF END_CASE;");
        written("CASE 1 OF 2 : END_CASE ;", "CASE 1 OF 2:END_CASE;");
        written("CASE - 1 OF - 2 : ELSE END_CASE ;", "CASE-1 OF-2:ELSE END_CASE;");
        written("CASE F ( ) OF TRUE : FALSE : END_CASE ;", "CASE F()OF TRUE:FALSE:END_CASE;");
        written("CASE A [ 1 ] OF ELSE X := 1 ; END_CASE ;", "CASE A[1]OF ELSE X:=1;END_CASE;");
        written("FOR I := 1 TO 2 BY 3 DO END_FOR ;", "FOR I:=1 TO 2 BY 3 DO END_FOR;");
        written("FOR I := - 1 TO - 2 BY - 3 DO X := 1 ; END_FOR ;", "FOR I:=-1 TO-2 BY-3 DO X:=1;END_FOR;");
        written("FOR I := TRUE TO FALSE DO EXIT ; END_FOR ;", "FOR I:=TRUE TO FALSE DO EXIT;END_FOR;");
        written("X := NOT NOT A ;", "X:=NOT NOT A;");
        written("X := NOT - NOT 1 ;", "X:=NOT-NOT 1;");
        written("VAR END_VAR VAR_INPUT END_VAR VAR_OUTPUT A : B ; END_VAR",
            "VAR END_VAR VAR_INPUT END_VAR VAR_OUTPUT A:B;END_VAR");
        written("VAR A AT %IX1 : INT ; END_VAR", "VAR A AT%IX1:INT;END_VAR");
        written("VAR A : ARRAY [ 1 .. 2 ] OF INT ; END_VAR X := 1 ;", "VAR A:ARRAY[1..2]OF INT;END_VAR X:=1;");
        Calls blocks = read("FUNCTION F : INT VAR END_VAR END_FUNCTION FUNCTION G : BOOL END_FUNCTION "
            + "FUNCTION_BLOCK H X ( ) ; END_FUNCTION_BLOCK PROGRAM I ; END_PROGRAM");
        due.is("blocks", blocks.write().written(), "FUNCTION F:INT VAR END_VAR END_FUNCTION "
            + "FUNCTION G:BOOL END_FUNCTION FUNCTION_BLOCK H X();END_FUNCTION_BLOCK PROGRAM I END_PROGRAM");
    }

    /** Whatever the bytes are that would meet. */
    private static void blanksBetweenLettersDigitsAndUnderscores() {
        for (String first : new String[] {"A", "Z", "_", "A_", "A0", "A9", "1", "0"}) {
            for (String second : new String[] {"A", "Z", "_", "_A", "0", "9"}) {
                written("X:=" + first + " MOD " + second + ";", "X:=" + first + " MOD " + second + ";");
                written("IF " + first + " THEN END_IF;", "IF " + first + " THEN END_IF;");
                written("X:=" + first + " + " + second + ";", "X:=" + first + "+" + second + ";");
                if (!Character.isDigit(first.charAt(0)) && !Character.isDigit(second.charAt(0))) {
                    written("LADDER RUNG " + first + " (**) " + second + " ; END_RUNG END_LADDER",
                        "LADDER RUNG " + first + " " + second + ";END_RUNG END_LADDER");
                }
            }
        }
    }

    private static void numbersByDecimalDigits() {
        String[][] numbers = {{"0", "0"}, {"00", "0"}, {"007", "7"}, {"10", "10"}, {"16#0", "0"}, {"16#A", "10"},
            {"2#0", "0"}, {"2#1010", "10"}, {"T#0MS", "0"}, {"T#10MS", "10"}, {"T#1S", "1000"}, {"T#1M", "60000"},
            {"T#1H", "3600000"}, {"9", "9"}, {"99", "99"}, {"100", "100"}, {"999999999", "999999999"},
            {"1000000000", "1000000000"}, {"2147483647", "2147483647"}, {"16#7fffffff", "2147483647"},
            {"16#80", "128"}};
        for (String[] number : numbers) {
            written("X:=" + number[0] + ";", "X:=" + number[1] + ";");
            written("X:=-" + number[0] + ";", "X:=-" + number[1] + ";");
            written("VAR A:INT:=" + number[0] + ";END_VAR", "VAR A:INT:=" + number[1] + ";END_VAR");
            String below = number[1].equals("0") ? "0" : "-" + number[1];
            written("VAR A:INT:=-" + number[0] + ";END_VAR", "VAR A:INT:=" + below + ";END_VAR");
        }
        String[][] places = {{"%ix00", "%IX0"}, {"%Ix0255", "%IX255"}, {"%qx010", "%QX10"}, {"%mx1", "%MX1"},
            {"%iw63", "%IW63"}, {"%Qw00063", "%QW63"}, {"%mW0", "%MW0"}};
        for (String[] place : places) {
            written("VAR A AT " + place[0] + ":INT;END_VAR", "VAR A AT" + place[1] + ":INT;END_VAR");
        }
    }

    private static void noSemicolonAlone() {
        written(";", "");
        written(";;;X:=1;;;Y:=2;;", "X:=1;Y:=2;");
        written("IF A THEN ; ELSIF B THEN ;; ELSE ; END_IF;", "IF A THEN ELSIF B THEN ELSE END_IF;");
        written("CASE A OF 1:; 2:;; ELSE ; END_CASE;", "CASE A OF 1:2:ELSE END_CASE;");
        written("FOR A:=1 TO 2 DO ; END_FOR;", "FOR A:=1 TO 2 DO END_FOR;");
    }

    private static void firstAndLastByte() {
        Calls calls = read(SMALL).write();
        String want = SMALL.toUpperCase();
        for (int i = 0; i < want.length(); i++) {
            int asked = i;
            edges.told("byteAt(" + i + ")", calls, x -> x.byteAt(asked), want.charAt(i));
        }
        edges.refused("byteAt(28)", calls, x -> x.byteAt(28));
        edges.refused("byteAt(-1)", calls, x -> x.byteAt(-1));
    }

    private static void bytesThatAreNot() {
        Calls[] all = {new Calls(), new Calls().withText(SMALL), read(SMALL), read(SMALL).write(),
            new Calls().read().write()};
        int[] none = {MIN, MIN + 1, -8192, -28, -2, -1, 28, 29, 255, 8191, 8192, 16383, 16384, MAX - 1, MAX};
        for (Calls calls : all) {
            for (int i : none) {
                edges.refused("byteAt(" + i + ")", calls, x -> x.byteAt(i));
            }
        }
        edges.refused("byteAt(0) at first", new Calls(), x -> x.byteAt(0));
        edges.refused("byteAt(0) before write()", read(SMALL), x -> x.byteAt(0));
        edges.refused("byteAt(0) of 0 bytes", new Calls().read().write(), x -> x.byteAt(0));
    }

    private static void bytesOfWhatWasWrittenEarlier() {
        Calls shorter = read(SMALL).write().withText("PROGRAM Q END_PROGRAM").read().write();
        due.is("the shorter one", shorter.written(), "PROGRAM Q END_PROGRAM");
        edges.told("its last byte", shorter, x -> x.byteAt(20), 'M');
        edges.refused("behind its last byte", shorter, x -> x.byteAt(21));
        Calls none = read(SMALL).write().then(ControlText::clear).read().write();
        edges.refused("behind write() of 0 bytes", none, x -> x.byteAt(0));
        Calls changed = read(SMALL).write().then(ControlText::back).then(x -> x.change(0, '!'));
        edges.told("what was written is not the text", changed, x -> x.byteAt(0), 'P');
    }

    /** A program of this length that is written by so many bytes. */
    private static String program(int length, int writtenBytes) {
        int times = (writtenBytes - length + 3) / 4;
        // What four more bytes each are too much is made up for by zeros that are not written.
        int zeros = length + 4 * times - writtenBytes;
        String before = "PROGRAM P F(" + "A:=T#3H,".repeat(times) + "A:=" + "0".repeat(zeros) + "1";
        String behind = ");END_PROGRAM";
        int room = length - before.length() - behind.length();
        return before + ",A:=1".repeat(room / 5 - 1) + ",A:=1" + "1".repeat(room % 5) + behind;
    }

    private static void bytesAbove8192() {
        String text = program(MOST, 12000);
        Calls calls = read(text).write();
        String want = text.replace("T#3H", "10800000").replaceAll("=0+1", "=1");
        due.is("write() of 12000 bytes", calls.answer(), 12000);
        due.is("12000 bytes", calls.written(), want);
        for (int i : new int[] {8191, 8192, 8193, 11999}) {
            edges.taken("byteAt(" + i + ")", calls, x -> x.byteAt(i), want.charAt(i));
        }
        edges.taken("byteAt(12000)", calls, x -> x.byteAt(12000), -1);
    }

    private static void backWithNothingWritten() {
        Calls[] all = {new Calls(), new Calls().withText(SMALL), read(SMALL), new Calls().read(), read("@"),
            read("@").write(), new Calls().withText(SMALL).write()};
        for (Calls calls : all) {
            edges.refused("back() with nothing written", calls, ControlText::back);
        }
    }

    private static void backOfZeroBytes() {
        edges.refused("back() of 0 bytes", new Calls().read().write(), ControlText::back);
        Calls none = read(SMALL).write().then(ControlText::clear).read().write();
        edges.refused("back() of 0 bytes, written before", none, ControlText::back);
        edges.refused("back() of 0 bytes with a text", none.withText(SMALL), ControlText::back);
        edges.refused("back() of 0 bytes with a tree", none.withText(SMALL).read(), ControlText::back);
    }

    private static void backUpTo8192() {
        for (int writtenBytes : new int[] {8100, 8188, 8191, 8192, 8193, 8194, 8196, 9000}) {
            String text = program(8000, writtenBytes);
            Calls calls = read(text).write();
            due.is("write() of " + writtenBytes, calls.answer(), writtenBytes);
            if (writtenBytes > MOST) {
                edges.refused("back() of " + writtenBytes, calls, ControlText::back);
                Calls ended = calls.then(x -> x.end(0));
                edges.refused("back() of " + writtenBytes + " behind end()", ended, ControlText::back);
            } else {
                edges.taken("back() of " + writtenBytes, calls, ControlText::back, writtenBytes);
                edges.onlyTextIs("back() of " + writtenBytes, calls, calls.then(ControlText::back), calls.written());
                due.is("read() of that", calls.then(ControlText::back).read().answer(), 0);
            }
        }
        String shortest = "PROGRAM P END_PROGRAM";
        edges.taken("back() of " + shortest, read(shortest).write(), ControlText::back, 21);
    }

    private static void backChangesTheTextAlone() {
        String want = "PROGRAM WAS_WRITTEN END_PROGRAM";
        for (String text : new String[] {"", "short", Edges.bytes(500)}) {
            for (Calls calls : new Calls[] {Edges.busy(text), Edges.faulted(text)}) {
                edges.taken("back()", calls, ControlText::back, want.length());
                edges.onlyTextIs("back()", calls, calls.then(ControlText::back), want);
                edges.told("back() again", calls.then(ControlText::back), ControlText::back, want.length());
            }
        }
    }
}
