import java.io.IOException;
import java.lang.reflect.InvocationTargetException;
import java.lang.reflect.Method;
import java.nio.file.Files;
import java.nio.file.Path;
import java.util.regex.Matcher;
import java.util.regex.Pattern;

/** The run of calls in README.md, made call by call: each answers what is written behind it. */
public final class ReadmeTest {
    private static final Pattern CALL = Pattern.compile("clock\\.(\\w+)\\((.*?)\\);(?:\\s*// (.*))?");
    private static final Pattern ANSWER = Pattern.compile("= (-?\\w+)\\b.*");
    private static final Pattern REFUSAL = Pattern.compile("throws (\\w+)\\b.*");

    public static void main(String[] args) throws IOException {
        SquaringClock clock = new SquaringClock();
        int calls = 0;
        int wrong = 0;
        for (String line : run(Files.readString(Path.of("README.md")))) {
            String due = due(line);
            String got = answer(clock, line);
            calls++;
            if (!got.equals(due)) {
                wrong++;
                System.out.println(line + " - answered " + got + ", README.md says " + due);
            }
        }
        System.out.println(calls + " calls of README.md, " + wrong + " of them not as written");
        if (calls == 0 || wrong > 0) {
            System.exit(1);
        }
    }

    /** The lines of the only block of Java, but for the one that makes the clock. */
    private static String[] run(String text) {
        String start = "```java\nSquaringClock clock = new SquaringClock();\n";
        int from = text.indexOf(start);
        if (from < 0) {
            return new String[0];
        }
        String block = text.substring(from + start.length(), text.indexOf("```", from + start.length()));
        return block.lines().filter(line -> !line.isBlank()).toArray(String[]::new);
    }

    private static String due(String line) {
        Matcher call = CALL.matcher(line);
        String comment = call.matches() && call.group(3) != null ? call.group(3) : "";
        for (Pattern pattern : new Pattern[] {ANSWER, REFUSAL}) {
            Matcher found = pattern.matcher(comment);
            if (found.matches()) {
                return found.group(1);
            }
        }
        return "nothing";
    }

    private static String answer(SquaringClock clock, String line) {
        Matcher call = CALL.matcher(line);
        if (!call.matches()) {
            return "no call";
        }
        String[] words = call.group(2).isEmpty() ? new String[0] : call.group(2).split(", ");
        Object[] numbers = new Object[words.length];
        for (int i = 0; i < words.length; i++) {
            numbers[i] = words[i].equals("SquaringClock.NONE") ? SquaringClock.NONE : Integer.parseInt(words[i]);
        }
        return answer(clock, call.group(1), numbers);
    }

    private static String answer(SquaringClock clock, String name, Object[] numbers) {
        for (Method method : SquaringClock.class.getMethods()) {
            if (method.getName().equals(name) && method.getParameterCount() == numbers.length) {
                try {
                    Object answer = method.invoke(clock, numbers);
                    return answer == null ? "nothing" : answer.toString();
                } catch (InvocationTargetException e) {
                    return e.getCause().getClass().getSimpleName();
                } catch (IllegalAccessException e) {
                    return "no access";
                }
            }
        }
        return "no such call";
    }
}
