import java.io.IOException;
import java.lang.reflect.InvocationTargetException;
import java.lang.reflect.Method;
import java.nio.file.Files;
import java.nio.file.Path;
import java.util.List;
import java.util.regex.Matcher;
import java.util.regex.Pattern;

/** The calls of README.md answer what stands behind them, and its rules are rules. */
public final class ReadmeTest {
    private static final Pattern TYPED = Pattern.compile("for \\(char c : \"(.*)\"\\.toCharArray\\(\\)\\) \\{");
    private static final Pattern CALL = Pattern.compile("x\\.(\\w+)\\((.*)\\); +// (throws \\w+|-?\\w+).*");
    private static final Pattern RULE = Pattern.compile("\\| `(.+?)` \\| .* \\|");

    private static final RuleCalendar X = new RuleCalendar();
    private static int calls = 0;
    private static int rules = 0;

    private ReadmeTest() {
    }

    public static void main(String[] args) throws IOException {
        for (String line : Files.readAllLines(Path.of("README.md"))) {
            Matcher typed = TYPED.matcher(line);
            Matcher call = CALL.matcher(line);
            Matcher rule = RULE.matcher(line);
            if (typed.matches()) {
                Check.type(X, typed.group(1));
            } else if (call.matches()) {
                answers(call.group(1), call.group(2), call.group(3));
            } else if (rule.matches()) {
                holdsSomewhere(rule.group(1).replace("\\|", "|"));
            }
        }
        // Lines that are written in another way would be passed over.
        Check.same("calls found in README.md", calls, 24);
        Check.same("rules found in README.md", rules, 14);
        Check.end("ReadmeTest");
    }

    private static void answers(String name, String arguments, String due) {
        calls++;
        String got = answer(name, arguments.isEmpty() ? List.of() : List.of(arguments.split(", ")));
        boolean silent = name.equals("shifts");
        Check.same(name + "(" + arguments + ") answers " + got + ", not " + due, silent || got.equals(due), true);
    }

    private static String answer(String name, List<String> arguments) {
        try {
            return String.valueOf(method(name).invoke(X, arguments.stream().map(ReadmeTest::value).toArray()));
        } catch (InvocationTargetException e) {
            return "throws " + e.getCause().getClass().getSimpleName();
        } catch (ReflectiveOperationException e) {
            return e.toString();
        }
    }

    private static Method method(String name) throws NoSuchMethodException {
        for (Method method : RuleCalendar.class.getMethods()) {
            if (method.getName().equals(name)) {
                return method;
            }
        }
        throw new NoSuchMethodException(name);
    }

    private static Object value(String argument) {
        if (argument.equals("true") || argument.equals("false")) {
            return Boolean.valueOf(argument);
        }
        return Integer.valueOf(argument);
    }

    private static void holdsSomewhere(String rule) {
        rules++;
        RuleCalendar x = Check.with(rule, 1);
        Check.noException(rule, () -> Check.same(rule + " is not idle", x.dead(0, 0), Check.NONE));
    }
}
