import java.io.IOException;
import java.nio.file.Files;
import java.nio.file.Path;
import java.util.regex.Matcher;
import java.util.regex.Pattern;

/** What can be read off the program's text of the rules of ../shared/LANGUAGE.md. */
public final class LanguageTest {
    private static final int MOST_LINES = 60;
    private static final int MOST_PARAMETERS = 7;
    private static final int MOST_CLASSES = 12;
    /**
     * A rule's number, and what breaks it where it is found; comments and texts are taken out before. Some are
     * stricter than the rule, as the program does without: arrows of a switch, texts and so their equals.
     */
    private static final String[][] FORBIDDEN = {
        {"0", "(?m)^package .*"},
        {"2", "->|::"},
        {"4", "(?m)^import (?!java\\.util\\.(ArrayList|List|Arrays|Iterator|NoSuchElementException);).*"},
        {"4", "\\b\\w+Exact\\b"},
        {"4", "\\bSystem\\.(?!arraycopy\\b)\\w+"},
        {"4", "(?<!import )\\bjava\\.[\\w.]+"},
        {"5", "(?m)^ *(private )?static (?!final )\\w+(\\[\\])* \\w+( =|;).*"},
        {"5", "\\bstatic \\{"},
        {"6", "\\b(finally|synchronized|assert)\\b"},
        {"6", "throw (?!new (IllegalState|IllegalArgument|IndexOutOfBounds|Arithmetic|UnsupportedOperation"
            + "|NoSuchElement|Runtime)Exception\\((\"\")?\\);).*"},
        {"6", "\\bclass \\w+ extends \\w*Exception\\b"},
        {"6", "\\b(equals|hashCode|toString|getMessage)\\("},
        {"9", "while \\(true\\)|for \\(;;\\)"},
        {"13", "\\b(Thread|Random|Runtime|Process|Clock|currentTimeMillis|nanoTime|identityHashCode)\\b"},
    };
    private static int wrong = 0;

    public static void main(String[] args) throws IOException {
        String code = withoutComments(Files.readString(Path.of("src/main/java/SquaringClock.java")));
        for (String[] rule : FORBIDDEN) {
            Matcher found = Pattern.compile(rule[1]).matcher(code);
            while (found.find()) {
                fault(rule[0], found.group());
            }
        }
        int classes = count(code, "\\b(class|interface|enum|record) \\w+");
        if (classes > MOST_CLASSES || classes == 0) {
            fault("11", classes + " classes");
        }
        checkMethods(code);
        System.out.println(wrong == 0 ? "the text keeps to the rules" : wrong + " places break a rule");
        if (wrong != 0) {
            System.exit(1);
        }
    }

    private static String withoutComments(String text) {
        return text.replaceAll("\"[^\"\\n]*\"", "\"\"").replaceAll("(?s)/\\*.*?\\*/", "").replaceAll("//[^\\n]*", "");
    }

    /** A method's end is the brace that stands as far to the left as its first line. */
    private static void checkMethods(String code) {
        Pattern method = Pattern.compile("(?ms)^( +)((?!(else|new|return|throw)\\b)[\\w\\[\\]]+ )+(\\w+)\\(([^()]*)\\)[^;{}]*\\{\\n.*?^\\1\\}");
        Matcher found = method.matcher(code);
        int methods = 0;
        while (found.find()) {
            methods++;
            int lines = found.group().split("\n").length;
            int parameters = found.group(5).isBlank() ? 0 : found.group(5).split(",").length;
            if (lines > MOST_LINES || parameters > MOST_PARAMETERS) {
                fault("11", found.group(4) + " has " + lines + " lines and " + parameters + " parameters");
            }
        }
        if (methods == 0) {
            fault("11", "no method was found");
        }
    }

    private static int count(String code, String pattern) {
        return (int) Pattern.compile(pattern).matcher(code).results().count();
    }

    private static void fault(String rule, String text) {
        wrong++;
        System.out.println("rule " + rule + ": " + text);
    }
}
