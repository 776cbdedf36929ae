/** Tests one call behind others: what it answers, and that a call which is refused, or only asks, changes nothing. */
final class Edges {
    private final Due due;

    Edges(Due due) {
        this.due = due;
    }

    void taken(String call, Calls before, Calls.Call made, int want) {
        due.is(call, before.then(made).answer(), want);
    }

    /** NONE, and nothing is changed. */
    void refused(String call, Calls before, Calls.Call made) {
        told(call, before, made, ControlText.NONE);
    }

    void told(String call, Calls before, Calls.Call made, int want) {
        Calls behind = before.then(made);
        due.is(call, behind.answer(), want);
        due.is(call + ": the state behind it", behind.state(), before.state());
    }

    /** All stays but for the text. */
    void onlyTextIs(String when, Calls before, Calls behind, String text) {
        due.is(when + ": the text", behind.text(), text);
        due.is(when + ": how many bytes", behind.then(x -> x.count(4)).answer(), text.length());
        due.is(when + ": what was read", behind.whatWasRead(), before.whatWasRead());
        due.is(when + ": the tree", behind.tree(), before.tree());
        due.is(when + ": the names", behind.names(), before.names());
        due.is(when + ": what was written", behind.written(), before.written());
    }

    /** With this text, the tree of another one, and what a third one was written as. */
    static Calls busy(String text) {
        return new Calls().withText("program WAS_written end_program").read().write()
            .withText("function the_tree:int x:=-1;end_function").read().withText(text);
    }

    /** With this text, a fault of another one, and what a third one was written as. */
    static Calls faulted(String text) {
        return new Calls().withText("program WAS_written end_program").read().write()
            .withText("program the_fault x:=-@;").read().withText(text);
    }

    /** Bytes that differ from their neighbours, so that one in another's place is seen. */
    static String bytes(int length) {
        StringBuilder all = new StringBuilder();
        for (int i = 0; i < length; i++) {
            all.append((char) ((i * 7 + i / 256 * 3 + 1) & 255));
        }
        return all.toString();
    }
}
