/** Promises 7, 8 and 9 at their edges: the first and last counts, nodes and letters, and those that are not. */
public final class AnswerEdgeTest {
    private static final int MIN = Integer.MIN_VALUE;
    private static final int MAX = Integer.MAX_VALUE;
    private static final int MOST = 8192;
    private static final String SMALL = "program p x:=y+1;end_program";
    private static final Due due = new Due();
    private static final Edges edges = new Edges(due);

    /** A text with each fault, by it, and the fault's place. */
    private static final String[] FAULTY = {"", "PROGRAM p @", "PROGRAM (*", "PROGRAM " + "a".repeat(33),
        "PROGRAM p x:=5x", "PROGRAM p VAR a AT %IX256", "PROGRAM p x:=1", "PROGRAM p x:=" + "(".repeat(61)};
    private static final int[] FAULTY_AT = {-1, 10, 8, 8, 13, 19, 14, 73};

    public static void main(String[] args) {
        countRefusesAnotherNumber();
        faultsAreToldUntilTheNextRead();
        placesOfFaults();
        nodesAreCounted();
        namesAreCounted();
        textsAreCounted();
        writtenBytesAreCounted();
        firstAndLastNode();
        nodesThatAreNot();
        nodesWithoutATree();
        nodesOfALargerTree();
        valuesThatAreNone();
        firstAndLastLetter();
        lettersThatAreNot();
        namesWithoutATree();
        namesOfAnEarlierText();
        due.end();
    }

    private static Calls read(String text) {
        return new Calls().withText(text).read();
    }

    private static void count(String when, Calls calls, int which, int want) {
        edges.told(when + ": count(" + which + ")", calls, x -> x.count(which), want);
    }

    private static void countRefusesAnotherNumber() {
        Calls[] all = {new Calls(), Edges.busy("text"), Edges.faulted("text"), read(SMALL).write()};
        for (Calls calls : all) {
            for (int which : new int[] {MIN, MIN + 5, -256, -2, -1, 6, 7, 8, 256, 65536, MAX}) {
                edges.refused("count(" + which + ")", calls, x -> x.count(which));
            }
        }
        for (int which = 0; which < 6; which++) {
            count("read and written", read(SMALL).write(), which, new int[] {0, -1, 8, 3, 28, 28}[which]);
        }
    }

    private static void faultsAreToldUntilTheNextRead() {
        for (int fault = 1; fault < FAULTY.length; fault++) {
            Calls before = read(SMALL).write();
            Calls faulty = before.withText(FAULTY[fault]).read();
            due.is("read() with fault " + fault, faulty.answer(), fault);
            due.is("fault " + fault, faulty.whatWasRead(), fault + " " + FAULTY_AT[fault] + " 0 0");
            Calls[] behind = {faulty.then(ControlText::clear), faulty.then(x -> x.feed(1, 2, 3, 4, 5)),
                faulty.then(x -> x.end(5)), faulty.then(x -> x.change(0, 32)), faulty.write(),
                faulty.then(ControlText::back)};
            for (Calls calls : behind) {
                due.is("fault " + fault + " stays", calls.whatWasRead(), faulty.whatWasRead());
                due.is("written with fault " + fault, calls.written(), before.written());
            }
            due.is("no text then", faulty.then(ControlText::clear).read().whatWasRead(), "0 -1 1 0");
            eachFaultBehind(faulty, fault);
        }
        eachFaultBehind(read(SMALL), 0);
    }

    private static void eachFaultBehind(Calls before, int last) {
        Calls good = before.withText(SMALL).read();
        due.is("no fault behind fault " + last, good.whatWasRead(), "0 -1 8 3");
        due.is("the tree behind fault " + last, good.tree() + good.names(), read(SMALL).tree() + "P\nX\nY\n");
        for (int next = 1; next < FAULTY.length; next++) {
            Calls faulty = before.withText(FAULTY[next]).read();
            due.is("fault " + next + " behind fault " + last, faulty.answer(), next);
            due.is("fault " + next + " behind fault " + last, faulty.whatWasRead(),
                next + " " + FAULTY_AT[next] + " 0 0");
        }
    }

    private static void placesOfFaults() {
        count("new", new Calls(), 1, -1);
        count("read", read(SMALL), 1, -1);
        count("at the first byte", read("@"), 1, 0);
        count("at the last byte", read(" ".repeat(MOST - 1) + "@"), 1, MOST - 1);
        count("at the longest text's end", read("PROGRAM" + " ".repeat(MOST - 7)), 1, MOST);
        count("behind a text that is read again", read("@").withText(SMALL).read(), 1, -1);
    }

    private static void nodesAreCounted() {
        count("new", new Calls(), 2, 0);
        count("fed, not read", new Calls().withText(SMALL), 2, 0);
        count("no text", new Calls().read(), 2, 1);
        count("a program", read("PROGRAM p END_PROGRAM"), 2, 3);
        count("a fault", read("PROGRAM p"), 2, 0);
        count("a fault behind a tree", read(SMALL).withText("@").read(), 2, 0);
        count("a tree behind a fault", read("@").withText(SMALL).read(), 2, 8);
        count("cleared", read(SMALL).then(ControlText::clear), 2, 8);
    }

    private static void namesAreCounted() {
        count("new", new Calls(), 3, 0);
        count("fed, not read", new Calls().withText(SMALL), 3, 0);
        count("no text", new Calls().read(), 3, 0);
        count("one", read("PROGRAM p END_PROGRAM"), 3, 1);
        count("one that comes often", read("PROGRAM p P:=p+P(p);END_PROGRAM"), 3, 1);
        count("three", read(SMALL), 3, 3);
        count("a fault", read("PROGRAM p x:=y"), 3, 0);
        count("a fault behind names", read(SMALL).withText("PROGRAM p x:=y").read(), 3, 0);
        count("no text behind names", read(SMALL).then(ControlText::clear).read(), 3, 0);
        count("cleared", read(SMALL).then(ControlText::clear), 3, 3);
        count("changed", read(SMALL).then(x -> x.change(10, 'q')), 3, 3);
    }

    private static void textsAreCounted() {
        for (int length : new int[] {0, 1, 19, 20, 21, 8191, MOST}) {
            count("fed", Edges.busy(Edges.bytes(length)), 4, length);
        }
        count("refused", Edges.busy(Edges.bytes(8173)).then(x -> x.feed(1, 2, 3, 4, 5)), 4, 8173);
        count("ended", Edges.busy(Edges.bytes(20)).then(x -> x.end(0)), 4, 0);
        count("brought back", read(SMALL + "   ").write().then(ControlText::back), 4, 28);
    }

    private static void writtenBytesAreCounted() {
        count("new", new Calls(), 5, 0);
        count("not written", read(SMALL), 5, 0);
        count("written", read(SMALL).write(), 5, 28);
        count("refused", read(SMALL).write().withText("@").read().write(), 5, 28);
        count("nothing written", read(SMALL).write().then(ControlText::clear).read().write(), 5, 0);
        String times = "PROGRAM P F(" + "A:=T#3H,".repeat(800) + "A:=1);END_PROGRAM";
        count("more than 8192", read(times).write(), 5, times.length() + 3200);
    }

    private static void firstAndLastNode() {
        String[] want = {"0 0 0 -1 1", "3 0 0 0 1", "11 8 0 1 1", "12 11 0 2 2", "6 10 1 3 0", "35 14 9 3 2",
            "6 13 2 5 0", "30 15 1 5 0"};
        for (int n = 0; n < want.length; n++) {
            String[] answers = want[n].split(" ");
            for (int i = 0; i < 5; i++) {
                int asked = n;
                int what = i;
                int wanted = Integer.parseInt(answers[i]);
                edges.told("node(" + n + ", " + i + ")", read(SMALL), x -> x.node(asked, what), wanted);
            }
        }
        for (int i = 0; i < 5; i++) {
            int what = i;
            edges.told("node(0, " + i + ") of no text", new Calls().read(), x -> x.node(0, what), i == 3 ? -1 : 0);
        }
    }

    private static void nodesThatAreNot() {
        Calls calls = read(SMALL);
        int[] none = {MIN, MIN + 1, -16384, -2, -1, 8, 9, 255, 256, 8191, 8192, 16383, 16384, 32768, MAX - 1, MAX};
        for (int n : none) {
            for (int what : new int[] {MIN, -1, 0, 1, 2, 3, 4, 5, MAX}) {
                edges.refused("node(" + n + ", " + what + ")", calls, x -> x.node(n, what));
            }
        }
        for (int n = 0; n < 8; n++) {
            for (int what : new int[] {MIN, -5, -2, -1, 5, 6, 256, MAX}) {
                int asked = n;
                edges.refused("node(" + n + ", " + what + ")", calls, x -> x.node(asked, what));
            }
        }
        edges.refused("node(1, 0) of no text", new Calls().read(), x -> x.node(1, 0));
    }

    private static void nodesWithoutATree() {
        Calls[] all = {new Calls(), new Calls().withText(SMALL), Edges.faulted(SMALL),
            read(SMALL).withText("@").read()};
        for (Calls calls : all) {
            for (int n : new int[] {MIN, -1, 0, 1, 7, MAX}) {
                for (int i = 0; i < 5; i++) {
                    int what = i;
                    edges.refused("node(" + n + ", " + i + ") without a tree", calls, x -> x.node(n, what));
                }
            }
        }
    }

    /** What an earlier tree had is gone. */
    private static void nodesOfALargerTree() {
        Calls smaller = read(SMALL).withText("PROGRAM q END_PROGRAM").read();
        due.is("the smaller tree", smaller.tree(), "0 0 0 -1 1\n3 0 0 0 1\n11 8 0 1 0\n");
        for (int n = 3; n < 8; n++) {
            for (int i = 0; i < 5; i++) {
                int asked = n;
                int what = i;
                edges.refused("node(" + n + ", " + i + ")", smaller, x -> x.node(asked, what));
            }
        }
        String choices = "PROGRAM P CASE A OF " + "1:".repeat(4076) + "END_CASE;END_PROGRAM";
        Calls largest = read(choices + " ".repeat(MOST - choices.length()));
        int nodes = 5 + 4 * 4076;
        due.is("the largest tree: count(2)", largest.then(x -> x.count(2)).answer(), nodes);
        due.is("the largest tree: the last kind", largest.then(x -> x.node(nodes - 1, 0)).answer(), 11);
        due.is("the largest tree: the last place", largest.then(x -> x.node(nodes - 1, 1)).answer(), 8171);
        due.is("the largest tree: the first that is none", largest.then(x -> x.node(nodes, 0)).answer(), -1);
        due.is("the largest tree: children", largest.then(x -> x.node(3, 4)).answer(), 4077);
    }

    private static void valuesThatAreNone() {
        String text = "PROGRAM p VAR a:INT:=-1;b:INT:=-2147483647;c:INT:=-0;END_VAR END_PROGRAM";
        edges.told("the value of -1", read(text), x -> x.node(6, 2), -1);
        edges.told("its kind", read(text), x -> x.node(6, 0), 30);
        edges.told("the value of -2147483647", read(text), x -> x.node(10, 2), -2147483647);
        edges.told("the value of -0", read(text), x -> x.node(14, 2), 0);
    }

    private static void firstAndLastLetter() {
        String longest = "abcdefghijklmnopqrstuvwxyz_01234";
        Calls calls = read("PROGRAM q " + longest + ":=r;END_PROGRAM");
        for (int i = 0; i < 32; i++) {
            int k = i;
            edges.told("nameByte(1, " + i + ")", calls, x -> x.nameByte(1, k), longest.toUpperCase().charAt(i));
        }
        edges.told("nameByte(0, 0)", calls, x -> x.nameByte(0, 0), 'Q');
        edges.told("nameByte(2, 0)", calls, x -> x.nameByte(2, 0), 'R');
        for (int name = 0; name < 3; name++) {
            int asked = name;
            int length = name == 1 ? 32 : 1;
            for (int k : new int[] {MIN, MIN + 1, -32, -1, length, length + 1, 33, 64, 256, MAX - 1, MAX}) {
                edges.refused("nameByte(" + name + ", " + k + ")", calls, x -> x.nameByte(asked, k));
            }
        }
    }

    private static void lettersThatAreNot() {
        Calls calls = read(SMALL);
        // Words have no numbers, be they counted before the names or behind them.
        for (int name = -60; name < 0; name++) {
            int asked = name;
            edges.refused("nameByte(" + name + ", 0)", calls, x -> x.nameByte(asked, 0));
        }
        for (int name : new int[] {MIN, MIN + 1, 3, 4, 41, 44, 255, 4095, 4096, 4137, 8192, MAX - 41, MAX - 1, MAX}) {
            for (int k : new int[] {MIN, -1, 0, 1, MAX}) {
                edges.refused("nameByte(" + name + ", " + k + ")", calls, x -> x.nameByte(name, k));
            }
        }
    }

    private static void namesWithoutATree() {
        Calls[] all = {new Calls(), new Calls().withText(SMALL), new Calls().read(), Edges.faulted(SMALL),
            read(SMALL).withText("PROGRAM p x:=y").read(), read(SMALL).then(ControlText::clear).read()};
        for (Calls calls : all) {
            for (int name : new int[] {MIN, -1, 0, 1, 2, 3, MAX}) {
                edges.refused("nameByte(" + name + ", 0) without names", calls, x -> x.nameByte(name, 0));
            }
        }
    }

    private static void namesOfAnEarlierText() {
        Calls fewer = read("PROGRAM abc d:=e;END_PROGRAM").withText("PROGRAM F G();END_PROGRAM").read();
        due.is("the names of the last text", fewer.names(), "F\nG\n");
        edges.refused("nameByte(0, 1)", fewer, x -> x.nameByte(0, 1));
        edges.refused("nameByte(2, 0)", fewer, x -> x.nameByte(2, 0));
        Calls again = read("PROGRAM a b:=c;END_PROGRAM").withText("PROGRAM c b:=a;END_PROGRAM").read();
        due.is("the names as they came last", again.names(), "C\nB\nA\n");
        Calls faulty = read("PROGRAM a b:=c;END_PROGRAM").withText("PROGRAM x y:=").read();
        Calls behindIt = faulty.withText("PROGRAM c b:=a;END_PROGRAM").read();
        due.is("the names behind a fault", behindIt.names(), "C\nB\nA\n");
        Calls cleared = read(SMALL).withText("PROGRAM other END_PROGRAM");
        due.is("the names until the next read()", cleared.names(), "P\nX\nY\n");
    }
}
