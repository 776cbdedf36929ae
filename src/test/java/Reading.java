/** Tests what read() answers; where a fault is due, a ^ in the text (which is not read) stands before its place. */
final class Reading {
    private final Due due;

    Reading(Due due) {
        this.due = due;
    }

    void is(String text, String want) {
        due.is(text + "\nread()", new Probe(text).answer(), want);
    }

    void reads(String text) {
        is(text, "read");
    }

    void refuses(int fault, String marked) {
        int place = marked.indexOf('^');
        is(marked.substring(0, place) + marked.substring(place + 1), "fault " + fault + " at " + place);
    }

    /** A text with a ^ is refused by fault 6 there, one without is read. */
    void readsOrRefuses(String text) {
        if (text.indexOf('^') < 0) {
            reads(text);
        } else {
            refuses(6, text);
        }
    }
}
