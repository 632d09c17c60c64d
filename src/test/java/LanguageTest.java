import java.io.IOException;
import java.nio.file.Files;
import java.nio.file.Path;
import java.util.List;
import java.util.Set;
import java.util.TreeSet;
import java.util.regex.MatchResult;
import java.util.regex.Pattern;

/** The rules of ../shared/LANGUAGE.md that the words of the program show; FaceTest asks for others. */
public final class LanguageTest {
    private static final Due DUE = new Due("LanguageTest");
    private static final Set<String> OWN =
            Set.of("QuadSnail", "Garden", "Snail", "Log", "Records", "OrderText");
    private static final Set<String> THROWN =
            Set.of("IndexOutOfBoundsException", "IllegalArgumentException", "IllegalStateException");
    private static final Set<String> MATHS = Set.of("Math.abs", "Math.floorDiv", "Math.floorMod");
    private static final List<String> UNUSED = List.of(
            "package", "import", "protected", "try", "catch", "finally", "synchronized", "volatile",
            "assert", "native", "transient", "strictfp", "instanceof", "var", "yield", "float",
            "abstract", "interface", "enum", "record", "while", "do");
    private static final int MOST_LINES = 60;

    public static void main(String[] args) throws IOException {
        String file = Files.readString(Path.of("src/main/java/QuadSnail.java"));
        DUE.is("signs beyond 127", file.chars().filter(sign -> sign > 127).count(), 0);
        String code = file.replaceAll("(?s)/\\*.*?\\*/", "").replaceAll("//[^\n]*", "");
        throwing(code);
        String bare = code.replaceAll("\"[^\"\n]*\"", "TEXT").replaceAll("'[^'\n]+'", "SIGN");
        words(bare);
        names(bare);
        madeOnlyOnce(bare);
        innerClasses(bare);
        lengths(file);
        DUE.end();
    }

    private static List<MatchResult> all(String pattern, String text) {
        return Pattern.compile(pattern).matcher(text).results().toList();
    }

    /** Rule 6: the three exceptions alone, with written texts, and texts stand nowhere else. */
    private static void throwing(String code) {
        List<MatchResult> throwing = all("\\bthrow new (\\w+)\\(\"[^\"\n+]*\"\\);", code);
        for (MatchResult one : throwing) {
            DUE.is(one.group() + " is one of the document's", THROWN.contains(one.group(1)) ? 1 : 0, 1);
        }
        DUE.is("throws there are", throwing.size() > 0 ? 1 : 0, 1);
        DUE.is("throws in no other form", all("\\bthrow\\b", code).size(), throwing.size());
        DUE.is("written texts", all("\"[^\"\n]*\"", code).size(), throwing.size());
    }

    /** Rules 2, 4, 6 and 10: words that the program has no need of, and those that are not allowed. */
    private static void words(String bare) {
        for (String word : UNUSED) {
            DUE.is("the word " + word, all("\\b" + word + "\\b", bare).size(), 0);
        }
        DUE.is("lambdas, arrows", all("->", bare).size(), 0);
        DUE.is("method references", all("::", bare).size(), 0);
        DUE.is("annotations", all("@", bare).size(), 0);
        // Rule 3: a cast between objects would need a test before it; there is none at all.
        DUE.is("casts", all("\\((int|long|char|byte|short|double|[A-Z][a-z]\\w*)\\)", bare).size(), 0);
    }

    /** Rule 4: of the library the program uses three functions of Math and the exceptions. */
    private static void names(String bare) {
        Set<String> strange = new TreeSet<>();
        for (MatchResult name : all("\\b[A-Z]\\w*[a-z]\\w*\\b", bare)) {
            String word = name.group();
            if (!OWN.contains(word) && !THROWN.contains(word) && !word.equals("Math")) {
                strange.add(word);
            }
        }
        for (MatchResult name : all("\\bMath\\s*\\.\\s*\\w+", bare)) {
            if (!MATHS.contains(name.group())) {
                strange.add(name.group());
            }
        }
        DUE.isSame("names from outside", strange, Set.of());
    }

    /** Rule 12: rows and objects are made where fields are, so that no call makes any. */
    private static void madeOnlyOnce(String bare) {
        int fields = all("(?m)^ +private final \\S+ \\w+ = new [^;]*;$", bare).size();
        int exceptions = all("\\bthrow new\\b", bare).size();
        DUE.is("made elsewhere", all("\\bnew\\b", bare).size() - fields - exceptions, 0);
        // Rule 7: an array's length is written down, so that it can't be below 0.
        for (MatchResult array : all("new \\w+\\[([^]]*)\\]", bare)) {
            DUE.is(array.group() + " has a constant length", array.group(1).matches("[A-Z_* ]+") ? 1 : 0, 1);
        }
    }

    /** Rule 1: the classes inside are private, final and static, and nothing in them is public. */
    private static void innerClasses(String bare) {
        List<MatchResult> inside = all("(?m)^ +(.*)\\bclass \\w+ \\{", bare);
        DUE.is("classes inside", inside.size(), OWN.size() - 1);
        for (MatchResult one : inside) {
            DUE.isSame(one.group(), one.group(1).trim(), "private static final");
        }
        String rest = bare.substring(bare.indexOf("private static final class"));
        DUE.is("public inside", all("\\bpublic\\b", rest).size(), 0);
    }

    /** Rule 11: methods stay short. A method ends with the brace below its own first sign. */
    private static void lengths(String file) {
        String[] lines = file.split("\n");
        int methods = 0;
        for (int line = 0; line < lines.length; line++) {
            int indent = lines[line].length() - lines[line].stripLeading().length();
            if (indent > 8 || !lines[line].matches(" +(\\w+ )+\\w+\\(.*")
                    || lines[line].matches(" +(return|throw|else) .*")) {
                continue;
            }
            int end = line;
            while (end < lines.length && !lines[end].equals(" ".repeat(indent) + "}")) {
                end++;
            }
            methods++;
            DUE.is(lines[line].trim() + " is short", end - line < MOST_LINES ? 1 : 0, 1);
        }
        DUE.is("methods found", methods > 40 ? 1 : 0, 1);
    }
}
