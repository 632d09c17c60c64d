import java.io.IOException;
import java.lang.reflect.Field;
import java.lang.reflect.InvocationTargetException;
import java.lang.reflect.Method;
import java.lang.reflect.Modifier;
import java.nio.file.Files;
import java.nio.file.Path;
import java.util.ArrayList;
import java.util.List;
import java.util.TreeSet;
import java.util.regex.MatchResult;
import java.util.regex.Matcher;
import java.util.regex.Pattern;

/** What README.md says of the class: its example, its tables and the files that it names. */
public final class ReadmeTest {
    private static final Due DUE = new Due("ReadmeTest");

    public static void main(String[] args) throws IOException, ReflectiveOperationException {
        String page = Files.readString(Path.of("README.md"));
        example(page);
        calls(page);
        constants(page);
        namedFiles(page);
        ownTests(page);
        DUE.end();
    }

    private static List<MatchResult> all(String pattern, String text) {
        return Pattern.compile(pattern).matcher(text).results().toList();
    }

    /** Each call of the example answers what stands behind it. */
    private static void example(String page) throws ReflectiveOperationException {
        int start = page.indexOf("```java\n");
        String[] lines = page.substring(start + 8, page.indexOf("```\n", start + 8)).split("\n");
        DUE.is("the example has calls", lines.length > 15 ? 1 : 0, 1);
        DUE.isSame("the example's first line", lines[0], "QuadSnail snails = new QuadSnail();");
        Pattern call = Pattern.compile("snails\\.(\\w+)\\((.*)\\); +// (throws \\w+|[-0-9.]+\\d|\\d)\\b.*");
        QuadSnail snails = new QuadSnail();
        for (int number = 1; number < lines.length; number++) {
            Matcher line = call.matcher(lines[number]);
            DUE.is("can be read: " + lines[number], line.matches() ? 1 : 0, 1);
            if (line.matches()) {
                String answer = answer(snails, line.group(1), arguments(line.group(2)));
                DUE.isSame(lines[number], answer, line.group(3));
            }
        }
    }

    private static Object[] arguments(String text) throws ReflectiveOperationException {
        List<Object> arguments = new ArrayList<>();
        for (String word : text.isEmpty() ? new String[0] : text.split(", ")) {
            if (word.startsWith("'")) {
                arguments.add(word.charAt(1));
            } else if (word.startsWith("QuadSnail.")) {
                arguments.add(QuadSnail.class.getField(word.substring(10)).getInt(null));
            } else {
                arguments.add(Integer.valueOf(word));
            }
        }
        return arguments.toArray();
    }

    private static String answer(QuadSnail snails, String name, Object[] arguments)
            throws ReflectiveOperationException {
        for (Method method : QuadSnail.class.getMethods()) {
            if (method.getName().equals(name)) {
                try {
                    return String.valueOf(method.invoke(snails, arguments));
                } catch (InvocationTargetException thrown) {
                    return "throws " + thrown.getCause().getClass().getSimpleName();
                }
            }
        }
        return "no such call";
    }

    /** The tables name each call once, with as many arguments and the exceptions that it declares. */
    private static void calls(String page) {
        List<String> told = new ArrayList<>();
        for (MatchResult row : all("(?m)^\\| `(\\w+)\\(([a-z, ]*)\\)` \\|[^|]+\\| ([IAS ]*)\\|$", page)) {
            int arguments = row.group(2).isEmpty() ? 0 : row.group(2).split(", ").length;
            told.add(row.group(1) + " " + arguments + " " + row.group(3).trim());
        }
        List<String> face = new ArrayList<>();
        for (Method method : QuadSnail.class.getDeclaredMethods()) {
            if (Modifier.isPublic(method.getModifiers())) {
                face.add(method.getName() + " " + method.getParameterCount() + " " + letters(method));
            }
        }
        DUE.is("calls told", told.size(), 33);
        DUE.isSame("the calls", new TreeSet<>(told), new TreeSet<>(face));
    }

    private static String letters(Method method) {
        List<String> letters = new ArrayList<>();
        for (Class<?> thrown : method.getExceptionTypes()) {
            String name = thrown.getSimpleName();
            letters.add(name.startsWith("Index") ? "I" : name.startsWith("IllegalA") ? "A" : "S");
        }
        return String.join(" ", letters);
    }

    private static void constants(String page) throws ReflectiveOperationException {
        List<String> told = new ArrayList<>();
        for (MatchResult row : all("(?m)^\\| `([A-Z]+)` \\| (-?\\d+) \\|", page)) {
            told.add(row.group(1) + " " + row.group(2));
        }
        List<String> face = new ArrayList<>();
        for (Field field : QuadSnail.class.getFields()) {
            face.add(field.getName() + " " + field.getInt(null));
        }
        DUE.is("constants told", told.size(), 3);
        DUE.isSame("the constants", new TreeSet<>(told), new TreeSet<>(face));
    }

    /** What the commands and the text name can be found from the project's directory. */
    private static void namedFiles(String page) {
        List<MatchResult> names = all("(?:\\.\\./shared|src|\\.ci)(?:/[\\w.]+)+", page);
        DUE.is("files are named", names.size() >= 5 ? 1 : 0, 1);
        for (MatchResult name : names) {
            DUE.is("there is a " + name.group(), Files.exists(Path.of(name.group())) ? 1 : 0, 1);
        }
        DUE.is(".ci/run can be run", Files.isExecutable(Path.of(".ci/run")) ? 1 : 0, 1);
    }

    /** The page tells of each test that there is. */
    private static void ownTests(String page) throws IOException {
        List<String> told = new ArrayList<>();
        for (MatchResult row : all("(?m)^\\| `(\\w+Test)` \\|", page)) {
            told.add(row.group(1) + ".java");
        }
        List<String> found = new ArrayList<>();
        try (var files = Files.list(Path.of("src/test/java"))) {
            files.map(file -> file.getFileName().toString())
                    .filter(name -> name.endsWith("Test.java"))
                    .forEach(found::add);
        }
        DUE.isSame("the tests", new TreeSet<>(told), new TreeSet<>(found));
    }
}
