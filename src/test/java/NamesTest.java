import java.util.ArrayList;
import java.util.List;

/** Promises 7 and 9: every name of one to three bytes, in texts that are read again and again. */
public final class NamesTest {
    private static final int LENGTH = 2000;
    private static final String BEFORE = "PROGRAM p VAR ";
    private static final String BEHIND = ":INT;END_VAR END_PROGRAM";
    private static final String FIRST = "ABCDEFGHIJKLMNOPQRSTUVWXYZ_";
    private static final String NEXT = FIRST + "0123456789";
    private static final Due due = new Due();

    public static void main(String[] args) {
        List<String> names = new ArrayList<>();
        int room = LENGTH - BEFORE.length() - BEHIND.length();
        for (String name : allNames()) {
            if (room < name.length() + 1) {
                readAgain(names);
                names.clear();
                room = LENGTH - BEFORE.length() - BEHIND.length();
            }
            names.add(name);
            room -= name.length() + 1;
        }
        readAgain(names);
        due.end();
    }

    private static List<String> allNames() {
        List<String> all = new ArrayList<>();
        for (String letter : FIRST.split("")) {
            all.add(letter);
        }
        for (int i = 0; i < all.size() && all.get(i).length() < 3; i++) {
            for (String letter : NEXT.split("")) {
                all.add(all.get(i) + letter);
            }
        }
        all.removeAll(Model.WORDS);
        all.remove("P");
        return all;
    }

    /** Without a fault, with one behind all names, and without one again: no read() knows of those before it. */
    private static void readAgain(List<String> names) {
        String text = BEFORE + String.join(",", names) + BEHIND;
        int last = text.length() - 1;
        String when = names.get(0) + " to " + names.get(names.size() - 1);
        Calls once = new Calls().withText(text).read();
        Calls faulty = once.then(x -> x.change(last, '?')).read();
        Calls again = faulty.then(x -> x.change(last, 'm')).read().read();
        due.is(when + ": how many", once.then(x -> x.count(3)).answer(), names.size() + 1);
        due.is(when + ", with a fault", faulty.whatWasRead(), "1 " + last + " 0 0");
        due.is(when + ", read again: how many", again.then(x -> x.count(3)).answer(), names.size() + 1);
        due.is(when + ", read again", again.names(), "P\n" + String.join("\n", names) + "\n");
    }
}
