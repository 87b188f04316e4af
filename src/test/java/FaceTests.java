import java.lang.reflect.Constructor;
import java.lang.reflect.Field;
import java.lang.reflect.Method;
import java.lang.reflect.Modifier;
import java.nio.file.Files;
import java.nio.file.Path;
import java.util.ArrayList;
import java.util.Arrays;
import java.util.List;
import java.util.Set;
import java.util.TreeSet;
import java.util.regex.Matcher;
import java.util.regex.Pattern;
import java.util.stream.Collectors;

/** The public face, the constants, and those rules of LANGUAGE.md that a look at the source can test. */
public final class FaceTests {
    private static final String[] FACE = {
        "int append(int,int,int,int,int)",
        "int load(int) IllegalArgumentException",
        "int errorOffset()",
        "int state(int) IllegalArgumentException",
        "int lot(int,int) IndexOutOfBoundsException IllegalArgumentException",
        "int page(int,int) IndexOutOfBoundsException IllegalArgumentException",
        "int standing(int,int) IndexOutOfBoundsException IllegalArgumentException",
        "int numbered(int) NoSuchElementException",
        "int different(int) NoSuchElementException",
        "int best()",
        "int choice(int,int) IllegalArgumentException",
        "int pays(int) IndexOutOfBoundsException",
        "int dearest(int) NoSuchElementException",
        "int seller(int,int) IllegalArgumentException",
        "int through(int) NoSuchElementException",
        "double filled()",
        "int withdraw(int) IndexOutOfBoundsException IllegalStateException",
        "int restore(int) IndexOutOfBoundsException IllegalStateException",
        "int add(int,int,int,int) IllegalArgumentException IllegalStateException",
        "int carry(int) IllegalArgumentException",
        "int press()",
        "int setCost(int,int) IllegalArgumentException",
        "int undo()",
        "long checksum()"};

    private final Check check = new Check();

    public static void main(String[] args) {
        new FaceTests().all();
    }

    private void all() {
        check.test("the methods", this::methods);
        check.test("the constants", this::constants);
        check.test("constructor and class", this::constructor);
        check.test("what the source may not hold", this::source);
        check.test("methods stay short", this::shortMethods);
        check.test("rule 4: arraycopy is for arrays of numbers", this::copiedArrays);
        check.test("rule 11: parameters, classes and fields", this::sizes);
        check.end();
    }

    private void methods() {
        Set<String> got = new TreeSet<>();
        Set<String> publicNames = new TreeSet<>();
        for (Method m : LotSheet.class.getDeclaredMethods()) {
            if (Modifier.isPublic(m.getModifiers())) {
                publicNames.add(m.getName());
                String parameters = Arrays.stream(m.getParameterTypes()).map(Class::getName)
                        .collect(Collectors.joining(","));
                String thrown = Arrays.stream(m.getExceptionTypes()).map(c -> " " + c.getSimpleName())
                        .collect(Collectors.joining());
                got.add(m.getReturnType().getName() + " " + m.getName() + "(" + parameters + ")" + thrown);
            } else {
                check.isTrue(m + " is neither public nor private", Modifier.isPrivate(m.getModifiers()));
            }
        }
        check.isTrue("the face is " + got, got.equals(new TreeSet<>(Arrays.asList(FACE))));
        for (Method m : LotSheet.class.getDeclaredMethods()) {
            check.isTrue(m + " bears a public name", Modifier.isPublic(m.getModifiers())
                    || !publicNames.contains(m.getName()));
        }
        for (Class<?> inside : LotSheet.class.getDeclaredClasses()) {
            for (Method m : inside.getDeclaredMethods()) {
                check.isTrue(m + " bears a public name", !publicNames.contains(m.getName()));
            }
        }
    }

    private void constants() throws Exception {
        check.same("SYNTAX_ERROR", LotSheet.SYNTAX_ERROR, -2);
        check.same("OUT_OF_RANGE", LotSheet.OUT_OF_RANGE, -3);
        check.same("TOO_MANY", LotSheet.TOO_MANY, -4);
        Set<String> names = new TreeSet<>();
        for (Field f : LotSheet.class.getDeclaredFields()) {
            if (Modifier.isPublic(f.getModifiers())) {
                check.isTrue(f + " is not a constant", Modifier.isStatic(f.getModifiers())
                        && Modifier.isFinal(f.getModifiers()) && f.getType() == int.class);
                names.add(f.getName());
            } else {
                check.isTrue(f + " is not private", Modifier.isPrivate(f.getModifiers()));
            }
        }
        check.isTrue("the public fields are " + names,
                names.equals(Set.of("SYNTAX_ERROR", "OUT_OF_RANGE", "TOO_MANY")));
    }

    private void constructor() {
        Constructor<?>[] all = LotSheet.class.getDeclaredConstructors();
        check.same("constructors", all.length, 1);
        check.isTrue("it is public", Modifier.isPublic(all[0].getModifiers()));
        check.same("its parameters", all[0].getParameterCount(), 0);
        check.isTrue("the class is final", Modifier.isFinal(LotSheet.class.getModifiers()));
        check.isTrue("it has no package", LotSheet.class.getPackageName().isEmpty());
    }

    private static String sourceText() throws Exception {
        return Files.readString(Path.of("src/main/java/LotSheet.java"));
    }

    private void source() throws Exception {
        String text = sourceText().replaceAll("(?s)/\\*.*?\\*/", "").replaceAll("//[^\n]*", "");
        String[] ruledOut = {"\\btry\\b", "\\bcatch\\b", "\\bfinally\\b", "->", "::", "\\bsynchronized\\b", "\\bassert\\b",
            "\\bMath\\.\\w*Exact\\b", "\\bSystem\\.(?!arraycopy\\b)", "\\bjava\\.(?!util\\.NoSuchElementException;)",
            "\\bprotected\\b", "\"\\s*\\+", "\\+\\s*\"", "\\bstatic\\s*\\{", "\\bwhile\\s*\\(true", "@"};
        for (String s : ruledOut) {
            Matcher m = Pattern.compile(s).matcher(text);
            check.isTrue("the source holds " + s, !m.find());
        }
        Matcher fields = Pattern.compile("(?m)^\\s*(public|private|)\\s*static (?!final )[^(]*[;=]").matcher(text);
        check.isTrue("a static field is not final", !fields.find());
    }

    private void copiedArrays() throws Exception {
        String text = sourceText();
        Set<String> arraysOfNumbers = new TreeSet<>();
        Set<String> otherArrays = new TreeSet<>();
        Matcher array = Pattern.compile("(\\w+)\\[\\] (\\w+)").matcher(text);
        while (array.find()) {
            boolean ofNumbers = array.group(1).matches("int|long|short|byte|double|float");
            (ofNumbers ? arraysOfNumbers : otherArrays).add(array.group(2));
        }
        Matcher copy = Pattern.compile("arraycopy\\(([^,]+),[^,]+,([^,]+),").matcher(text);
        while (copy.find()) {
            for (String copied : new String[] {copy.group(1), copy.group(2)}) {
                String name = copied.trim().replaceAll(".*\\.", "");
                check.isTrue("arraycopy of " + copied.trim(),
                        arraysOfNumbers.contains(name) && !otherArrays.contains(name));
            }
        }
    }

    private void sizes() {
        List<Class<?>> classes = new ArrayList<>(Arrays.asList(LotSheet.class.getDeclaredClasses()));
        classes.add(LotSheet.class);
        check.isTrue(classes.size() + " classes", classes.size() <= 12);
        for (Class<?> c : classes) {
            int fields = 0;
            for (Field f : c.getDeclaredFields()) {
                fields += Modifier.isStatic(f.getModifiers()) ? 0 : 1;
                check.isTrue(f + " is static and not final", !Modifier.isStatic(f.getModifiers())
                        || Modifier.isFinal(f.getModifiers()));
            }
            check.isTrue(c + " has " + fields + " fields", fields <= 20);
            for (Method m : c.getDeclaredMethods()) {
                check.isTrue(m + " has more than 7 parameters", m.getParameterCount() <= 7);
            }
        }
    }

    private void shortMethods() throws Exception {
        int lines = 0;
        String head = "";
        for (String line : sourceText().split("\n")) {
            lines++;
            if (line.matches(" {4}( {4})?[\\w].*\\).*\\{") || line.matches(" {4}( {4})?private static final class.*")) {
                lines = 0;
                head = line.trim();
            } else if (line.matches(" {4}( {4})?\\}")) {
                check.isTrue(head + " has " + lines + " lines", lines <= 60 || head.contains(" class "));
            }
        }
    }
}
