import java.io.IOException;
import java.lang.reflect.InvocationTargetException;
import java.lang.reflect.Method;
import java.nio.file.Files;
import java.nio.file.Path;
import java.util.regex.Matcher;
import java.util.regex.Pattern;

/** The examples of README.md: each call answers, or throws, what the remark behind it begins with. */
public final class ReadmeTest {
    private static final Pattern EXAMPLE = Pattern.compile("(?s)```java\n(.*?)```");
    private static final Pattern CALL = Pattern.compile("g\\.(\\w+)\\((.*?)\\);(?:\\s*// (.*))?");
    private static final Pattern ANSWER = Pattern.compile("(-?\\d+|true|false):.*");
    private static final Pattern REFUSAL = Pattern.compile("throws (\\w+):.*");
    private static final String FIRST_LINE = "MakerGuard g = new MakerGuard();";

    private static int told = 0;

    public static void main(String[] args) throws IOException, IllegalAccessException {
        Matcher examples = EXAMPLE.matcher(Files.readString(Path.of("README.md")));
        int found = 0;
        while (examples.find()) {
            follow(examples.group(1).split("\n"));
            found++;
        }
        Check.due("examples", found, 2);
        Check.due("enough calls tell their answer", told > 20, true);
        Check.finish();
    }

    private static void follow(String[] lines) throws IllegalAccessException {
        MakerGuard guard = new MakerGuard();
        Check.due("the first line", lines[0], FIRST_LINE);
        for (int k = 1; k < lines.length; k++) {
            Matcher call = CALL.matcher(lines[k]);
            boolean isCall = call.matches();
            Check.due("a call: " + lines[k], isCall, true);
            if (isCall) {
                compare(lines[k], answer(guard, call.group(1), call.group(2).split(", ")), call.group(3));
            }
        }
    }

    private static void compare(String line, String answer, String remark) {
        Matcher number = ANSWER.matcher(remark == null ? "" : remark);
        Matcher refusal = REFUSAL.matcher(remark == null ? "" : remark);
        String due = number.matches() ? number.group(1) : refusal.matches() ? refusal.group(1) : "nothing";
        told += due.equals("nothing") ? 0 : 1;
        Check.due(line, answer, due);
    }

    private static String answer(MakerGuard guard, String name, String[] arguments) throws IllegalAccessException {
        for (Method method : MakerGuard.class.getMethods()) {
            if (method.getName().equals(name)) {
                return answer(guard, method, arguments);
            }
        }
        return "no such call";
    }

    private static String answer(MakerGuard guard, Method method, String[] arguments) throws IllegalAccessException {
        Object[] given = new Object[arguments.length];
        for (int k = 0; k < given.length; k++) {
            boolean truth = method.getParameterTypes()[k] == boolean.class;
            given[k] = truth ? (Object) Boolean.valueOf(arguments[k]) : (Object) Integer.valueOf(arguments[k]);
        }
        try {
            Object answer = method.invoke(guard, given);
            return answer == null ? "nothing" : answer.toString();
        } catch (InvocationTargetException e) {
            return e.getCause().getClass().getSimpleName();
        }
    }
}
