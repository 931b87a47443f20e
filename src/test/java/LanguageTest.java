import java.io.IOException;
import java.nio.file.Files;
import java.nio.file.Path;
import java.util.Arrays;
import java.util.List;
import java.util.regex.Matcher;
import java.util.regex.Pattern;

/**
 * The rules of LANGUAGE.md that can be seen in the text of the class. It is stricter where the class needs less than
 * a rule allows: there are no doubles and no exceptions in it, so none are let in.
 */
public final class LanguageTest {
    private static final List<String> LIBRARY = Arrays.asList("Arrays.fill", "Arrays.copyOf", "Arrays.copyOfRange",
        "System.arraycopy", "Math.min", "Math.max", "Math.abs", "Math.floorDiv", "Math.floorMod",
        "Integer.bitCount", "Integer.compare", "Integer.min", "Integer.max", "Long.compare");
    private static final Pattern METHOD =
        Pattern.compile("^ +(?:(?:public|private|static|final) )*[\\w\\[\\]]+ \\w+\\(([^)]*)\\) \\{$");

    private static int wrong = 0;

    public static void main(String[] args) throws IOException {
        String code = withoutWords(Files.readString(Path.of("src", "main", "java", "SongToBridge.java")));
        noneOf(code, 2, "->|::|\\bsuper\\b");
        noneOf(code, 3, "\\b(?:double|float|Object|Map|Set|HashMap|Long|Character|Boolean)\\b[ <\\[]");
        noneOf(code, 6, "\\b(?:try|catch|finally|throw|synchronized|assert|throws)\\b");
        noneOf(code, 6, "\\b(?:equals|hashCode|toString|getClass|getMessage)\\b");
        noneOf(code, 9, "while \\(true\\)|for \\(;|\\bdo \\{");
        noneOf(code, 13, "\\b(?:Random|Thread|currentTimeMillis|nanoTime|getenv|getProperty|random)\\b");
        noneOf(code, 1, "(?m)^package|\\bprotected\\b|@");
        importsAreThose(code);
        libraryIsThat(code);
        staticFieldsAreFinal(code);
        methodsAreShort(code);
        atMost("classes", 12, count(code, "\\b(?:class|interface|enum|record) \\w+"));
        System.out.println(wrong == 0 ? "the rules that can be seen hold" : wrong + " breaches of LANGUAGE.md");
        if (wrong != 0) {
            System.exit(1);
        }
    }

    /** The code with comments, texts and signs left out, lines kept. */
    private static String withoutWords(String source) {
        String code = source.replaceAll("\"(?:[^\"\\\\\n]|\\\\.)*\"", "\"\"").replaceAll("'(?:[^'\\\\]|\\\\.)'", "' '");
        code = code.replaceAll("//[^\n]*", "");
        Matcher comment = Pattern.compile("(?s)/\\*.*?\\*/").matcher(code);
        return comment.replaceAll(found -> found.group().replaceAll("[^\n]", ""));
    }

    private static void fail(int rule, String why) {
        wrong++;
        System.out.println("rule " + rule + ": " + why);
    }

    private static void noneOf(String code, int rule, String pattern) {
        Matcher found = Pattern.compile(pattern).matcher(code);
        while (found.find()) {
            fail(rule, "line " + lineOf(code, found.start()) + " has " + found.group());
        }
    }

    private static int lineOf(String code, int at) {
        return code.substring(0, at).split("\n", -1).length;
    }

    private static int count(String code, String pattern) {
        return (int) Pattern.compile(pattern).matcher(code).results().count();
    }

    private static void atMost(String what, int most, int found) {
        if (found > most || found == 0) {
            fail(11, found + " " + what + ", at most " + most);
        }
    }

    private static void importsAreThose(String code) {
        noneOf(code, 4, "(?m)^import (?!java\\.util\\.(?:Arrays|ArrayList|List|Iterator|NoSuchElementException);).*");
    }

    private static void libraryIsThat(String code) {
        Matcher call = Pattern.compile("\\b(?:Arrays|System|Math|Integer|Long|String|List)\\.\\w+").matcher(code);
        while (call.find()) {
            boolean isImport = code.startsWith("java.util.", Math.max(0, call.start() - 10));
            if (!isImport && !LIBRARY.contains(call.group())) {
                fail(4, "line " + lineOf(code, call.start()) + " calls " + call.group());
            }
        }
    }

    private static void staticFieldsAreFinal(String code) {
        noneOf(code, 5, "(?m)^.*\\bstatic (?!final |class )[^({]*[;=].*$|\\bstatic \\{");
    }

    private static void methodsAreShort(String code) {
        String[] lines = code.split("\n", -1);
        int methods = 0;
        for (int i = 0; i < lines.length; i++) {
            Matcher head = METHOD.matcher(lines[i]);
            if (head.matches() && !lines[i].trim().startsWith("else")) {
                methods++;
                atMostSeven(lines[i], head.group(1));
                isShort(lines, i);
            }
        }
        if (methods < 28) {
            fail(11, "only " + methods + " methods were found");
        }
    }

    private static void atMostSeven(String heading, String parameters) {
        if (parameters.split(",").length > 7) {
            fail(11, "more than seven parameters: " + heading.trim());
        }
    }

    private static void isShort(String[] lines, int head) {
        String end = lines[head].replaceAll("\\S.*", "") + "}";
        int last = head;
        while (last < lines.length && !lines[last].equals(end)) {
            last++;
        }
        if (last - head > 60) {
            fail(11, "longer than sixty lines: " + lines[head].trim());
        }
    }
}
