import java.util.ArrayList;
import java.util.List;

/**
 * A row of calls, made on a new object whenever something behind it is asked: so all of the state can be asked,
 * though an object is good for 512 calls only.
 */
final class Calls {
    private static final int MOST_CALLS = 512;

    interface Call {
        int on(ControlText object);
    }

    private record Step(Call call, int cost) { }

    private final List<Step> steps;
    private ControlText object;
    private int made;
    private int lastAnswer;
    private String state;

    Calls() {
        steps = List.of();
    }

    private Calls(List<Step> before, Step last) {
        List<Step> all = new ArrayList<>(before);
        all.add(last);
        steps = all;
    }

    Calls then(Call call) {
        return new Calls(steps, new Step(call, 1));
    }

    /** In the place of the text that is there. */
    Calls withText(String text) {
        Step feeding = new Step(x -> Probe.feed(x, text), Probe.feed(new ControlText(), text));
        return new Calls(then(ControlText::clear).steps, feeding);
    }

    Calls read() {
        return then(ControlText::read);
    }

    Calls write() {
        return then(ControlText::write);
    }

    private void start() {
        object = new ControlText();
        made = 0;
        for (Step step : steps) {
            lastAnswer = step.call.on(object);
            made += step.cost;
        }
        if (made >= MOST_CALLS) {
            throw new IllegalStateException("a row of too many calls");
        }
    }

    private int ask(Call call) {
        if (object == null || made == MOST_CALLS) {
            start();
        }
        made++;
        return call.on(object);
    }

    /** What the last call answers. */
    int answer() {
        start();
        object = null;
        return lastAnswer;
    }

    String counts() {
        StringBuilder all = new StringBuilder();
        for (int which = 0; which < 6; which++) {
            int asked = which;
            all.append(which == 0 ? "" : " ").append(ask(x -> x.count(asked)));
        }
        return all.toString();
    }

    /** The fault, its place, and how many nodes and names there are. */
    String whatWasRead() {
        return counts().replaceAll(" -?\\d+ -?\\d+$", "");
    }

    String text() {
        StringBuilder all = new StringBuilder();
        int length = ask(x -> x.count(4));
        for (int i = 0; i < length; i++) {
            int asked = i;
            all.append((char) ask(x -> x.change(asked, 0)));
        }
        object = null;
        return all.toString();
    }

    /** A line for each node: kind, place, value, parent, children. */
    String tree() {
        StringBuilder all = new StringBuilder();
        int nodes = ask(x -> x.count(2));
        for (int i = 0; i < 5 * nodes; i++) {
            int n = i / 5;
            int what = i % 5;
            all.append(ask(x -> x.node(n, what))).append(what == 4 ? '\n' : ' ');
        }
        return all.toString();
    }

    /** A line for each name. */
    String names() {
        StringBuilder all = new StringBuilder();
        int names = ask(x -> x.count(3));
        for (int i = 0; i < names; i++) {
            int name = i;
            for (int k = 0, b; (b = letter(name, k)) != ControlText.NONE; k++) {
                all.append((char) b);
            }
            all.append('\n');
        }
        return all.toString();
    }

    private int letter(int name, int k) {
        return ask(x -> x.nameByte(name, k));
    }

    String written() {
        StringBuilder all = new StringBuilder();
        int length = ask(x -> x.count(5));
        for (int i = 0; i < length; i++) {
            int asked = i;
            all.append((char) ask(x -> x.byteAt(asked)));
        }
        return all.toString();
    }

    /** What is told right before the first and right behind the last byte, node and name. */
    private String outside() {
        int length = ask(x -> x.count(4));
        int nodes = ask(x -> x.count(2));
        int names = ask(x -> x.count(3));
        int written = ask(x -> x.count(5));
        int[] answers = {
            ask(x -> x.change(-1, 0)), ask(x -> x.change(length, 0)), ask(x -> x.node(-1, 0)),
            ask(x -> x.node(nodes, 0)), ask(x -> x.nameByte(-1, 0)), ask(x -> x.nameByte(names, 0)),
            ask(x -> x.byteAt(-1)), ask(x -> x.byteAt(written)),
        };
        StringBuilder all = new StringBuilder();
        for (int answer : answers) {
            all.append(answer).append(' ');
        }
        return all.toString();
    }

    /** All that can be asked. */
    String state() {
        if (state == null) {
            state = "counts " + counts() + "\noutside " + outside() + "\ntree\n" + tree() + "names\n" + names()
                + "written " + written() + "\ntext " + text();
        }
        return state;
    }
}
