import java.io.IOException;
import java.lang.reflect.Method;
import java.nio.file.DirectoryStream;
import java.nio.file.Files;
import java.nio.file.Path;
import java.util.ArrayList;
import java.util.Arrays;
import java.util.List;
import java.util.TreeSet;
import java.util.regex.Matcher;
import java.util.regex.Pattern;

/** README.md: the class answers what its example and its faults tell, and its tables have every test. */
public final class ReadmeTest {
    private static final String MAKING = "ControlText x = new ControlText();";
    private static final Pattern CALL = Pattern.compile("x\\.(\\w+)\\((.*)\\); *// (NONE|-?\\d+)\\b.*");
    private static final Pattern FAULT = Pattern.compile("\\| ([1-9]) \\| .* \\| `(.*)` \\| (\\d+) \\|");
    private static final Pattern TEST = Pattern.compile("\\| `(\\w+Test)` \\|.*");
    private static final int FAULTS = 7;

    private static final Due due = new Due();

    public static void main(String[] args) throws IOException, ReflectiveOperationException {
        List<String> lines = Files.readAllLines(Path.of("README.md"));
        examples(lines);
        faults(lines);
        tests(lines);
        due.end();
    }

    /** Every line of each example is a call with its answer, and they have every call of the face. */
    private static void examples(List<String> lines) throws ReflectiveOperationException {
        TreeSet<String> called = new TreeSet<>();
        ControlText object = null;
        boolean inside = false;
        for (String line : lines) {
            if (line.startsWith("```")) {
                inside = line.equals("```java");
            } else if (inside && line.equals(MAKING)) {
                object = new ControlText();
            } else if (inside) {
                Matcher call = CALL.matcher(line);
                due.is(line + "\nis a call with its answer", call.matches() ? 1 : 0, 1);
                due.is(line, answer(object, call.group(1), call.group(2)), told(call.group(3)));
                called.add(call.group(1));
            }
        }
        due.is("the calls of the example", called.toString(), face().toString());
    }

    private static int answer(ControlText object, String name, String arguments) throws ReflectiveOperationException {
        List<Object> numbers = new ArrayList<>();
        for (String number : arguments.isEmpty() ? new String[0] : arguments.split(", ")) {
            numbers.add(Long.decode(number).intValue());
        }
        Class<?>[] types = new Class<?>[numbers.size()];
        Arrays.fill(types, int.class);
        return (Integer) ControlText.class.getMethod(name, types).invoke(object, numbers.toArray());
    }

    private static int told(String answer) {
        return answer.equals("NONE") ? ControlText.NONE : Integer.parseInt(answer);
    }

    private static TreeSet<String> face() {
        TreeSet<String> names = new TreeSet<>();
        for (Method one : ControlText.class.getMethods()) {
            if (one.getDeclaringClass() == ControlText.class) {
                names.add(one.getName());
            }
        }
        return names;
    }

    private static void faults(List<String> lines) {
        int told = 0;
        for (String line : lines) {
            Matcher fault = FAULT.matcher(line);
            if (fault.matches()) {
                told++;
                due.is("the fault that is told as number " + told, fault.group(1), String.valueOf(told));
                due.is(line, new Probe(fault.group(2)).answer(), "fault " + told + " at " + fault.group(3));
            }
        }
        due.is("faults", told, FAULTS);
    }

    private static void tests(List<String> lines) throws IOException {
        TreeSet<String> told = new TreeSet<>();
        for (String line : lines) {
            Matcher test = TEST.matcher(line);
            if (test.matches()) {
                told.add(test.group(1));
            }
        }
        TreeSet<String> there = new TreeSet<>();
        try (DirectoryStream<Path> files = Files.newDirectoryStream(Path.of("src/test/java"), "*Test.java")) {
            for (Path file : files) {
                there.add(file.getFileName().toString().replace(".java", ""));
            }
        }
        due.is("the tests", told.toString(), there.toString());
    }
}
