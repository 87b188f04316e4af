import java.lang.reflect.InvocationTargetException;
import java.lang.reflect.Method;
import java.lang.reflect.Modifier;
import java.nio.file.Files;
import java.nio.file.Path;
import java.util.Set;
import java.util.TreeSet;
import java.util.regex.Matcher;
import java.util.regex.Pattern;

/** Makes the calls of README.md's examples, as one run, and compares the answers with those told behind them. */
public final class ReadmeTests {
    private static final Pattern EXAMPLE = Pattern.compile("(?ms)^```java\n(.*?)^```$");
    private static final Pattern CALL = Pattern.compile("sheet\\.(\\w+)\\((.*)\\);\\s*// (.+)");
    private static final Pattern TEXT = Pattern.compile("Sheets\\.load\\(sheet, \"(.*)\"\\);\\s*// (.+)");
    private static final Pattern NUMBER = Pattern.compile("-?[0-9]+(\\.[0-9]+)?");
    private static final Pattern THROWN = Pattern.compile("throws (\\w+)");

    private final Check check = new Check();
    private final LotSheet sheet = new LotSheet();
    private final Set<String> called = new TreeSet<>();

    public static void main(String[] args) {
        ReadmeTests t = new ReadmeTests();
        t.check.test("the examples answer as README.md says", t::examples);
        t.check.test("the examples call every method", t::everyMethod);
        t.check.end();
    }

    private void examples() throws Exception {
        Matcher example = EXAMPLE.matcher(Files.readString(Path.of("README.md")));
        while (example.find()) {
            for (String line : example.group(1).split("\n")) {
                if (!line.equals("LotSheet sheet = new LotSheet();")) {
                    make(line);
                }
            }
        }
    }

    private void make(String line) throws Exception {
        Matcher call = CALL.matcher(line);
        Matcher text = TEXT.matcher(line);
        if (text.matches()) {
            compare(line, Integer.toString(Sheets.load(sheet, text.group(1))), text.group(2));
        } else if (call.matches()) {
            called.add(call.group(1));
            compare(line, answer(call.group(1), call.group(2)), call.group(3));
        } else {
            check.complain("this is no call: " + line);
        }
    }

    private String answer(String name, String arguments) throws Exception {
        String[] parts = arguments.isEmpty() ? new String[0] : arguments.split(", ");
        Object[] given = new Object[parts.length];
        for (int i = 0; i < parts.length; i++) {
            given[i] = Integer.decode(parts[i]);
        }
        try {
            return face(name).invoke(sheet, given).toString();
        } catch (InvocationTargetException e) {
            return "throws " + e.getCause().getClass().getSimpleName();
        }
    }

    private static Method face(String name) {
        for (Method m : LotSheet.class.getDeclaredMethods()) {
            if (m.getName().equals(name)) {
                return m;
            }
        }
        throw new IllegalStateException("there is no method " + name);
    }

    /** A remark that begins with neither a number nor an exception tells no answer. */
    private void compare(String line, String got, String remark) {
        Matcher number = NUMBER.matcher(remark);
        Matcher thrown = THROWN.matcher(remark);
        if (thrown.lookingAt()) {
            check.isTrue(line + " answered " + got, got.equals(thrown.group()));
        } else if (number.lookingAt()) {
            check.isTrue(line + " answered " + got, got.equals(number.group()));
        } else {
            check.isTrue(line + " answered " + got, !got.startsWith("throws "));
        }
    }

    private void everyMethod() {
        for (Method m : LotSheet.class.getDeclaredMethods()) {
            if (Modifier.isPublic(m.getModifiers())) {
                check.isTrue("README.md does not show " + m.getName(), called.contains(m.getName()));
            }
        }
    }
}
