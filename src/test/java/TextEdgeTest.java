/** Promises 1 to 5 at their edges: a new object, and the last and first calls that the text takes and refuses. */
public final class TextEdgeTest {
    private static final int MIN = Integer.MIN_VALUE;
    private static final int MAX = Integer.MAX_VALUE;
    private static final int MOST = 8192;
    private static final Due due = new Due();
    private static final Edges edges = new Edges(due);

    public static void main(String[] args) {
        newObjectHasNoTextAndNoTree();
        firstCalls();
        clearTellsHowManyBytesThereWere();
        clearOfAnEmptyText();
        clearLeavesNoByte();
        feedTakesTheHighestByteFirst();
        feedComesBehindTheText();
        feedUpTo8192();
        feedBehindBack();
        endLeavesZeroToTwenty();
        endRefusesAnotherNumber();
        endRefusesFewerThanTwentyBytes();
        endOfBytesByWhicheverCalls();
        changeTellsWhatItWas();
        changeRefusesAnotherNumber();
        changeRefusesBytesThatAreNot();
        changeOfBytesThatWere();
        due.end();
    }

    private static void newObjectHasNoTextAndNoTree() {
        due.is("a new object", new Calls().state(), "counts 0 -1 0 0 0 0\noutside -1 -1 -1 -1 -1 -1 -1 -1 \n"
            + "tree\nnames\nwritten \ntext ");
    }

    /** Each call as the first one. */
    private static void firstCalls() {
        Calls none = new Calls();
        edges.told("clear()", none, ControlText::clear, 0);
        edges.taken("feed", none, x -> x.feed(1, 2, 3, 4, 5), 20);
        edges.refused("end(0)", none, x -> x.end(0));
        edges.refused("end(20)", none, x -> x.end(20));
        edges.refused("change(0, 0)", none, x -> x.change(0, 0));
        edges.taken("read()", none, ControlText::read, 0);
        edges.refused("node(0, 0)", none, x -> x.node(0, 0));
        edges.refused("node(0, 3)", none, x -> x.node(0, 3));
        edges.refused("nameByte(0, 0)", none, x -> x.nameByte(0, 0));
        edges.refused("write()", none, ControlText::write);
        edges.refused("byteAt(0)", none, x -> x.byteAt(0));
        edges.refused("back()", none, ControlText::back);
        due.is("read() of no text", none.read().state(), "counts 0 -1 1 0 0 0\noutside -1 -1 -1 -1 -1 -1 -1 -1 \n"
            + "tree\n0 0 0 -1 0\nnames\nwritten \ntext ");
    }

    private static void clearTellsHowManyBytesThereWere() {
        for (int length : new int[] {1, 19, 20, 21, 8191, MOST}) {
            Calls busy = Edges.busy(Edges.bytes(length));
            edges.taken("clear() of " + length, busy, ControlText::clear, length);
            edges.onlyTextIs("clear() of " + length, busy, busy.then(ControlText::clear), "");
        }
        Calls faulted = Edges.faulted("PROGRAM");
        edges.onlyTextIs("clear() with a fault", faulted, faulted.then(ControlText::clear), "");
        Calls read = new Calls().withText("PROGRAM p x:=y;END_PROGRAM").read();
        edges.onlyTextIs("clear() of what was read", read, read.then(ControlText::clear), "");
    }

    private static void clearOfAnEmptyText() {
        edges.told("clear() of nothing", new Calls(), ControlText::clear, 0);
        edges.told("clear() of nothing with a tree", Edges.busy(""), ControlText::clear, 0);
        edges.told("clear() of nothing with a fault", Edges.faulted(""), ControlText::clear, 0);
        Calls ended = new Calls().withText(Edges.bytes(20)).then(x -> x.end(0));
        edges.told("clear() behind end(0)", ended, ControlText::clear, 0);
    }

    /** What comes next comes as into a new object. */
    private static void clearLeavesNoByte() {
        Calls cleared = Edges.busy(Edges.bytes(MOST)).then(ControlText::clear);
        edges.refused("end(0)", cleared, x -> x.end(0));
        edges.refused("end(20)", cleared, x -> x.end(20));
        edges.refused("change(0, 1)", cleared, x -> x.change(0, 1));
        edges.refused("change(8191, 1)", cleared, x -> x.change(8191, 1));
        Calls fed = cleared.then(x -> x.feed(0x20202020, 0x20202020, 0x20202020, 0x20202020, 0x20202021));
        due.is("feed behind clear()", fed.text(), " ".repeat(19) + "!");
        due.is("read() behind clear()", Edges.busy("PROGRAM p").then(ControlText::clear).read().answer(), 0);
    }

    private static void feedTakesTheHighestByteFirst() {
        int[] numbers = {MIN, MIN + 1, -2, -1, 0, 1, 255, 256, 65536, 16777216, 0x01020304, 0x80818283, 0xFF00FE01,
            0x00FF0000, MAX - 1, MAX};
        for (int number : numbers) {
            for (int which = 0; which < 5; which++) {
                int[] five = {0x30313233, 0x34353637, 0x38394041, 0x42434445, 0x46474849};
                five[which] = number;
                Calls fed = new Calls().then(x -> x.feed(five[0], five[1], five[2], five[3], five[4]));
                StringBuilder want = new StringBuilder();
                for (int one : five) {
                    want.append((char) (one >>> 24)).append((char) (one >>> 16 & 255));
                    want.append((char) (one >>> 8 & 255)).append((char) (one & 255));
                }
                due.is("feed of " + number, fed.answer(), 20);
                due.is("feed of " + number + ": the text", fed.text(), want.toString());
            }
        }
    }

    private static void feedComesBehindTheText() {
        for (int length : new int[] {0, 1, 19, 20, 39, 40, 4095}) {
            Calls busy = Edges.busy(Edges.bytes(length));
            Calls fed = busy.then(x -> x.feed(0x41424344, 0x45464748, 0x494A4B4C, 0x4D4E4F50, 0x51525354));
            due.is("feed behind " + length, fed.answer(), length + 20);
            edges.onlyTextIs("feed behind " + length, busy, fed, Edges.bytes(length) + "ABCDEFGHIJKLMNOPQRST");
        }
    }

    private static void feedUpTo8192() {
        for (int length : new int[] {8152, 8160, 8171, 8172}) {
            Calls busy = Edges.busy(Edges.bytes(length));
            Calls fed = busy.then(x -> x.feed(0x41424344, 0x45464748, 0x494A4B4C, 0x4D4E4F50, 0x51525354));
            due.is("feed to " + (length + 20), fed.answer(), length + 20);
            edges.onlyTextIs("feed to " + (length + 20), busy, fed, Edges.bytes(length) + "ABCDEFGHIJKLMNOPQRST");
        }
        for (int length = 8173; length <= MOST; length++) {
            Calls busy = Edges.busy(Edges.bytes(length));
            edges.refused("feed behind " + length, busy, x -> x.feed(-1, 0x41424344, MIN, MAX, 7));
        }
        Calls full = Edges.busy(Edges.bytes(MOST));
        for (int number : new int[] {MIN, -1, 0, MAX}) {
            edges.refused("feed of " + number, full, x -> x.feed(number, number, number, number, number));
        }
        edges.taken("feed behind end(0)", full.then(x -> x.end(0)), x -> x.feed(1, 2, 3, 4, 5), MOST);
        edges.refused("feed behind end(1)", full.then(x -> x.end(1)), x -> x.feed(1, 2, 3, 4, 5));
        edges.taken("feed behind clear()", full.then(ControlText::clear), x -> x.feed(1, 2, 3, 4, 5), 20);
    }

    /** A text that is written as itself. */
    private static String program(int length) {
        return "PROGRAM P F(" + "A:=1,".repeat((length - 40) / 5) + "A:=" + "1".repeat(1 + (length - 40) % 5)
            + "2345);END_PROGRAM";
    }

    private static Calls broughtBack(int length) {
        String text = program(length - program(40).length() + 40);
        Calls back = new Calls().withText(text).read().write().then(ControlText::clear).then(ControlText::back);
        due.is("back() of " + length, back.answer(), length);
        due.is("back() of " + length, back.text(), text);
        return back;
    }

    private static void feedBehindBack() {
        edges.taken("feed behind back() of 8172", broughtBack(8172), x -> x.feed(1, 2, 3, 4, 5), MOST);
        edges.refused("feed behind back() of 8173", broughtBack(8173), x -> x.feed(1, 2, 3, 4, 5));
        edges.refused("feed behind back() of 8192", broughtBack(MOST), x -> x.feed(1, 2, 3, 4, 5));
        edges.taken("end(19) behind back() of 8192", broughtBack(MOST), x -> x.end(19), 8191);
    }

    private static void endLeavesZeroToTwenty() {
        for (int length : new int[] {20, 21, 39, 40, 8191, MOST}) {
            Calls busy = Edges.busy(Edges.bytes(length));
            for (int n = 0; n <= 20; n++) {
                int asked = n;
                Calls ended = busy.then(x -> x.end(asked));
                String when = "end(" + n + ") of " + length;
                due.is(when, ended.answer(), length - 20 + n);
                if (length < 100 || n < 2 || n > 18) {
                    edges.onlyTextIs(when, busy, ended, Edges.bytes(length).substring(0, length - 20 + n));
                }
            }
        }
    }

    private static void endRefusesAnotherNumber() {
        for (int n : new int[] {MIN, MIN + 20, -8192, -21, -20, -1, 21, 22, 40, 256, 8192, MAX - 19, MAX}) {
            for (int length : new int[] {0, 19, 20, 21, 40}) {
                edges.refused("end(" + n + ") of " + length, Edges.busy(Edges.bytes(length)), x -> x.end(n));
            }
        }
        edges.refused("end(-1) of 8192", Edges.busy(Edges.bytes(MOST)), x -> x.end(-1));
        edges.refused("end(21) of 8172", Edges.busy(Edges.bytes(8172)), x -> x.end(21));
    }

    private static void endRefusesFewerThanTwentyBytes() {
        for (int length = 0; length < 20; length++) {
            for (int n : new int[] {0, 1, length, 19, 20}) {
                edges.refused("end(" + n + ") of " + length, Edges.busy(Edges.bytes(length)), x -> x.end(n));
            }
        }
        Calls nineteen = Edges.busy(Edges.bytes(20)).then(x -> x.end(19));
        edges.refused("end(20) behind end(19)", nineteen, x -> x.end(20));
        Calls none = Edges.busy(Edges.bytes(20)).then(x -> x.end(0));
        edges.refused("end(0) behind end(0)", none, x -> x.end(0));
    }

    private static void endOfBytesByWhicheverCalls() {
        String text = Edges.bytes(33);
        Calls cut = new Calls().withText(text).then(x -> x.end(17));
        due.is("end(17) of 33", cut.text(), text.substring(0, 30));
        Calls twice = cut.then(x -> x.end(3));
        due.is("end(3) of 30", twice.answer(), 13);
        due.is("end(3) of 30", twice.text(), text.substring(0, 13));
        Calls fed = twice.then(x -> x.feed(0x41424344, 0x45464748, 0x494A4B4C, 0x4D4E4F50, 0x51525354));
        Calls again = fed.then(x -> x.end(18)).then(x -> x.end(2));
        due.is("end(2) of bytes by two feeds", again.answer(), 13);
        due.is("end(2) of bytes by two feeds", again.text(), text.substring(0, 13));
        Calls whole = fed.then(x -> x.end(20)).then(x -> x.end(20));
        due.is("end(20) twice", whole.text(), text.substring(0, 13) + "ABCDEFGHIJKLMNOPQRST");
        Calls changed = whole.then(x -> x.change(32, '!')).then(x -> x.change(13, '?')).then(x -> x.end(1));
        due.is("end(1) of changed bytes", changed.text(), text.substring(0, 13) + "?");
        Calls back = new Calls().withText("program p end_program").read().write().then(ControlText::back);
        due.is("end(19) behind back()", back.then(x -> x.end(19)).text(), "PROGRAM P END_PROGRA");
        due.is("end(0) behind back()", back.then(x -> x.end(0)).text(), "P");
        edges.refused("end(0) of that", back.then(x -> x.end(0)), x -> x.end(0));
    }

    private static void changeTellsWhatItWas() {
        for (int length : new int[] {1, 20, 8191, MOST}) {
            String text = Edges.bytes(length);
            Calls busy = Edges.busy(text);
            for (int i : new int[] {0, length / 2, length - 1}) {
                for (int v : new int[] {0, 1, 127, 128, 254, 255}) {
                    Calls changed = busy.then(x -> x.change(i, v));
                    String when = "change(" + i + ", " + v + ") of " + length;
                    due.is(when, changed.answer(), text.charAt(i));
                    due.is(when + " again", changed.then(x -> x.change(i, 7)).answer(), v);
                    if (length < 100 || v == 255) {
                        edges.onlyTextIs(when, busy, changed, text.substring(0, i) + (char) v + text.substring(i + 1));
                    }
                }
            }
        }
    }

    private static void changeRefusesAnotherNumber() {
        for (int v : new int[] {MIN, MIN + 65, -256, -255, -1, 256, 257, 321, 65536 + 65, MAX}) {
            for (int i : new int[] {0, 10, 19}) {
                edges.refused("change(" + i + ", " + v + ")", Edges.busy(Edges.bytes(20)), x -> x.change(i, v));
            }
            edges.refused("change(8191, " + v + ")", Edges.busy(Edges.bytes(MOST)), x -> x.change(8191, v));
            edges.refused("change(20, " + v + ")", Edges.busy(Edges.bytes(20)), x -> x.change(20, v));
        }
    }

    private static void changeRefusesBytesThatAreNot() {
        for (int length : new int[] {0, 1, 20, 8191, MOST}) {
            for (int i : new int[] {MIN, MIN + 1, -MOST, -1, length, length + 1, 8192, 8193, 16384, MAX}) {
                for (int v : new int[] {0, 255}) {
                    String when = "change(" + i + ", " + v + ") of " + length;
                    edges.refused(when, Edges.busy(Edges.bytes(length)), x -> x.change(i, v));
                }
            }
        }
    }

    /** Bytes that were there before clear(), end() and back(). */
    private static void changeOfBytesThatWere() {
        Calls ended = Edges.busy(Edges.bytes(40)).then(x -> x.end(5));
        edges.refused("change(25, 1) behind end(5)", ended, x -> x.change(25, 1));
        edges.taken("change(24, 1) behind end(5)", ended, x -> x.change(24, 1), Edges.bytes(40).charAt(24));
        Calls cleared = Edges.busy(Edges.bytes(40)).then(ControlText::clear);
        edges.refused("change(0, 1) behind clear()", cleared, x -> x.change(0, 1));
        Calls back = new Calls().withText("program p      end_program").read().write().then(ControlText::back);
        edges.taken("change(20, 1) behind back()", back, x -> x.change(20, 1), 'M');
        edges.refused("change(21, 1) behind back()", back, x -> x.change(21, 1));
    }
}
