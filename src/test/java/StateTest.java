import java.util.Arrays;

/** Promises 1 to 5, 7, 11 and 12: the text, what is counted, and what was written. */
public final class StateTest {
    private static final Due due = new Due();
    private static final String SMALL = "program p x:=1;end_program";
    private static final String SMALL_WRITTEN = "PROGRAM P X:=1;END_PROGRAM";

    public static void main(String[] args) {
        newObject();
        feeding();
        feedingToTheBrim();
        ending();
        changing();
        clearing();
        counting();
        nodesAndNamesThatAreNot();
        writtenBytes();
        goingBack();
        goingBackWithTooMuch();
        due.end();
    }

    private static void counts(String when, ControlText x, int... want) {
        for (int which = 0; which < want.length; which++) {
            due.is(when + ": count(" + which + ")", x.count(which), want[which]);
        }
    }

    private static ControlText with(String text) {
        ControlText x = new ControlText();
        Probe.feed(x, text);
        return x;
    }

    private static void newObject() {
        due.is("NONE", ControlText.NONE, -1);
        ControlText x = new ControlText();
        counts("new", x, 0, -1, 0, 0, 0, 0);
        due.is("new: node(0, 0)", x.node(0, 0), -1);
        due.is("new: nameByte(0, 0)", x.nameByte(0, 0), -1);
        due.is("new: write()", x.write(), -1);
        due.is("new: byteAt(0)", x.byteAt(0), -1);
        due.is("new: back()", x.back(), -1);
        due.is("new: change(0, 0)", x.change(0, 0), -1);
        due.is("new: end(0)", x.end(0), -1);
        due.is("new: clear()", x.clear(), 0);
        due.is("new: read()", x.read(), 0);
        counts("no text read", x, 0, -1, 1, 0, 0, 0);
    }

    private static void feeding() {
        ControlText x = new ControlText();
        due.is("feed", x.feed(0x01020304, 0x80FF7F00, -1, 0, 0x0A0B0C0D), 20);
        int[] want = {1, 2, 3, 4, 128, 255, 127, 0, 255, 255, 255, 255, 0, 0, 0, 0, 10, 11, 12, 13};
        for (int i = 0; i < 20; i++) {
            due.is("change(" + i + ", 9)", x.change(i, 9), want[i]);
        }
        due.is("feed again", x.feed(0, 0, 0, 0, 5), 40);
        due.is("the first byte stays", x.change(0, 1), 9);
        due.is("the last byte came", x.change(39, 1), 5);
    }

    private static void feedingToTheBrim() {
        ControlText x = new ControlText();
        for (int i = 1; i <= 409; i++) {
            due.is("feed " + i, x.feed(i, i, i, i, i), 20 * i);
        }
        due.is("feed above 8192", x.feed(1, 1, 1, 1, 1), -1);
        due.is("nothing changed", x.count(4), 8180);
        due.is("end(12)", x.end(12), 8172);
        due.is("feed to 8192", x.feed(2, 2, 2, 2, 2), 8192);
        due.is("feed at 8192", x.feed(3, 3, 3, 3, 3), -1);
        due.is("last byte", x.change(8191, 7), 2);
        due.is("behind the last", x.change(8192, 7), -1);
        due.is("end(1)", x.end(1), 8173);
        due.is("feed to 8193", x.feed(3, 3, 3, 3, 3), -1);
        due.is("clear()", x.clear(), 8173);
        due.is("feed", x.feed(3, 3, 3, 3, 3), 20);
    }

    private static void ending() {
        ControlText x = new ControlText();
        x.feed(0x01010101, 0x01010101, 0x01010101, 0x01010101, 0x01010101);
        x.feed(0x02020202, 0x02020202, 0x02020202, 0x02020202, 0x02020202);
        for (int n : new int[] {-1, 21, Integer.MIN_VALUE, Integer.MAX_VALUE}) {
            due.is("end(" + n + ")", x.end(n), -1);
        }
        due.is("end(20)", x.end(20), 40);
        due.is("end(7)", x.end(7), 27);
        due.is("end(0) of bytes by two calls", x.end(0), 7);
        due.is("end(5) with 7 bytes", x.end(5), -1);
        due.is("the 7 stay", x.count(4), 7);
        due.is("byte 6", x.change(6, 0), 1);
        due.is("byte 7", x.change(7, 0), -1);
        due.is("feed", x.feed(0, 0, 0, 0, 0), 27);
        due.is("end(13)", x.end(13), 20);
        due.is("end(19) with 20 bytes", x.end(19), 19);
        due.is("end(19) with 19 bytes", x.end(19), -1);
    }

    private static void changing() {
        ControlText x = with(SMALL);
        for (int i : new int[] {-1, SMALL.length(), Integer.MIN_VALUE, Integer.MAX_VALUE}) {
            due.is("change(" + i + ", 65)", x.change(i, 65), -1);
        }
        for (int v : new int[] {-1, 256, Integer.MIN_VALUE, Integer.MAX_VALUE}) {
            due.is("change(0, " + v + ")", x.change(0, v), -1);
        }
        due.is("change(8, 255)", x.change(8, 255), 'p');
        due.is("change(8, 0)", x.change(8, 0), 255);
        due.is("change(8, q)", x.change(8, 'q'), 0);
        due.is("read()", x.read(), 0);
        due.is("name", x.nameByte(0, 0), 'Q');
        due.is("change(13, @)", x.change(13, '@'), '1');
        due.is("the tree stays", x.count(2), 6);
        due.is("read()", x.read(), 1);
        counts("a fault", x, 1, 13, 0, 0, SMALL.length(), 0);
    }

    private static void clearing() {
        ControlText x = with(SMALL);
        x.read();
        x.write();
        due.is("clear()", x.clear(), SMALL.length());
        counts("cleared", x, 0, -1, 6, 2, 0, SMALL_WRITTEN.length());
        due.is("clear() again", x.clear(), 0);
        due.is("node(5, 0)", x.node(5, 0), 30);
        due.is("nameByte(1, 0)", x.nameByte(1, 0), 'X');
        due.is("write()", x.write(), SMALL_WRITTEN.length());
        due.is("read()", x.read(), 0);
        counts("nothing read", x, 0, -1, 1, 0, 0, SMALL_WRITTEN.length());
    }

    private static void counting() {
        ControlText x = with(SMALL);
        counts("not read", x, 0, -1, 0, 0, SMALL.length(), 0);
        for (int which : new int[] {-1, 6, Integer.MIN_VALUE, Integer.MAX_VALUE}) {
            due.is("count(" + which + ")", x.count(which), -1);
        }
        x.read();
        counts("read", x, 0, -1, 6, 2, SMALL.length(), 0);
        x.feed('x' << 24, 0, 0, 0, 0);
        x.end(1);
        counts("fed", x, 0, -1, 6, 2, SMALL.length() + 1, 0);
        due.is("read()", x.read(), 6);
        counts("a fault", x, 6, SMALL.length() + 1, 0, 0, SMALL.length() + 1, 0);
        due.is("no node", x.node(0, 0), -1);
        due.is("no name", x.nameByte(0, 0), -1);
        x.change(SMALL.length(), ' ');
        due.is("read()", x.read(), 0);
        counts("read again", x, 0, -1, 6, 2, SMALL.length() + 1, 0);
    }

    private static void nodesAndNamesThatAreNot() {
        ControlText x = with("PROGRAM p VAR a:INT:=-1;END_VAR END_PROGRAM");
        x.read();
        for (int n : new int[] {-1, 8, 16384, Integer.MIN_VALUE, Integer.MAX_VALUE}) {
            for (int what = 0; what < 5; what++) {
                due.is("node(" + n + ", " + what + ")", x.node(n, what), -1);
            }
        }
        for (int what : new int[] {-1, 5, Integer.MIN_VALUE, Integer.MAX_VALUE}) {
            due.is("node(0, " + what + ")", x.node(0, what), -1);
        }
        due.is("the value of -1", x.node(6, 2), -1);
        due.is("parent of 0", x.node(0, 3), -1);
        for (int name : new int[] {-1, 2, 4096, Integer.MIN_VALUE, Integer.MAX_VALUE}) {
            due.is("nameByte(" + name + ", 0)", x.nameByte(name, 0), -1);
        }
        for (int k : new int[] {-1, 1, 32, Integer.MIN_VALUE, Integer.MAX_VALUE}) {
            due.is("nameByte(1, " + k + ")", x.nameByte(1, k), -1);
        }
        due.is("nameByte(1, 0)", x.nameByte(1, 0), 'A');
    }

    private static void writtenBytes() {
        ControlText x = with(SMALL);
        x.read();
        due.is("nothing written", x.byteAt(0), -1);
        due.is("write()", x.write(), SMALL_WRITTEN.length());
        for (int i = 0; i < SMALL_WRITTEN.length(); i++) {
            due.is("byteAt(" + i + ")", x.byteAt(i), SMALL_WRITTEN.charAt(i));
        }
        for (int i : new int[] {-1, SMALL_WRITTEN.length(), Integer.MIN_VALUE, Integer.MAX_VALUE}) {
            due.is("byteAt(" + i + ")", x.byteAt(i), -1);
        }
        x.change(0, '?');
        due.is("read()", x.read(), 1);
        due.is("write() without a tree", x.write(), -1);
        due.is("what was written stays", x.byteAt(0), 'P');
        due.is("count(5)", x.count(5), SMALL_WRITTEN.length());
        x.clear();
        x.read();
        due.is("write() of no text", x.write(), 0);
        due.is("byteAt(0)", x.byteAt(0), -1);
        due.is("count(5)", x.count(5), 0);
        due.is("back()", x.back(), -1);
    }

    private static void goingBack() {
        ControlText x = with("(* much longer than what is written *) " + SMALL);
        x.read();
        due.is("back() before write()", x.back(), -1);
        x.write();
        due.is("back()", x.back(), SMALL_WRITTEN.length());
        due.is("count(4)", x.count(4), SMALL_WRITTEN.length());
        due.is("the tree stays", x.node(1, 1), 39);
        for (int i = 0; i < SMALL_WRITTEN.length(); i++) {
            due.is("byte " + i, x.change(i, SMALL_WRITTEN.charAt(i)), SMALL_WRITTEN.charAt(i));
        }
        due.is("change behind the text", x.change(SMALL_WRITTEN.length(), 0), -1);
        due.is("read()", x.read(), 0);
        due.is("the new tree", x.node(1, 1), 0);
        x.change(0, '?');
        due.is("what was written is another row", x.byteAt(0), 'P');
        due.is("read()", x.read(), 1);
        due.is("back() after a fault", x.back(), SMALL_WRITTEN.length());
        due.is("read()", x.read(), 0);
    }

    /** T#3H is written by eight digits, so that a text in the bounds is written as one that is not. */
    private static void goingBackWithTooMuch() {
        char[] blanks = new char[8192];
        Arrays.fill(blanks, ' ');
        int most = 0;
        for (int length : new int[] {8192, 4300}) {
            StringBuilder text = new StringBuilder("PROGRAM P X(");
            while (text.length() < length - 40) {
                text.append("A:=T#3H,");
            }
            text.append("B:=1);END_PROGRAM");
            text.append(blanks, 0, length - text.length());
            ControlText x = with(text.toString());
            due.is("read() of " + length, x.read(), 0);
            int written = text.toString().trim().replace("T#3H", "10800000").length();
            due.is("write() of " + length, x.write(), written);
            due.is("back() of " + length, x.back(), written > 8192 ? -1 : written);
            due.is("count(4)", x.count(4), written > 8192 ? length : written);
            due.is("the last byte", x.byteAt(written - 1), 'M');
            most = Math.max(most, written);
        }
        due.is("one is above 8192", most > 8192 ? 1 : 0, 1);
    }
}
