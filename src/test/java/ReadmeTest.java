import java.io.IOException;
import java.lang.reflect.InvocationTargetException;
import java.lang.reflect.Method;
import java.nio.file.Files;
import java.nio.file.Path;
import java.util.regex.Matcher;
import java.util.regex.Pattern;

/** README.md's examples: each call in them is made, and answers what the comment behind it begins with. */
public final class ReadmeTest {
    private static final Pattern NEW =
        Pattern.compile("SorterSteps sorter = new SorterSteps\\((-?\\d+), (-?\\d+)\\);.*");
    private static final Pattern CALL = Pattern.compile("sorter\\.(\\w+)\\((.*?)\\); +// ([^:]*)(:.*)?");

    private static SorterSteps sorter;

    public static void main(String[] args) throws IOException, IllegalAccessException {
        boolean inExample = false;
        for (String line : Files.readAllLines(Path.of("README.md"))) {
            if (line.startsWith("```")) {
                inExample = line.equals("```java");
            } else if (inExample) {
                runLine(line);
            }
        }
        Check.end();
    }

    private static void runLine(String line) throws IllegalAccessException {
        Matcher made = NEW.matcher(line);
        Matcher call = CALL.matcher(line);
        if (made.matches()) {
            sorter = new SorterSteps(Integer.parseInt(made.group(1)), Integer.parseInt(made.group(2)));
        } else if (call.matches() && sorter != null) {
            runCall(line, call.group(1), call.group(2), call.group(3));
        } else {
            Check.due(line, "a call with its answer", "not one that can be read");
        }
    }

    private static void runCall(String line, String name, String written, String answer)
            throws IllegalAccessException {
        Method method = methodNamed(name);
        Object[] values = values(written);
        if (method == null || method.getParameterCount() != values.length) {
            Check.due(line, "a call of the face", "none");
        } else if (method.getReturnType() == void.class) {
            Check.due(line, "null", answerOf(method, values));
        } else {
            Check.due(line, answer, answerOf(method, values));
        }
    }

    private static Method methodNamed(String name) {
        for (Method method : SorterSteps.class.getMethods()) {
            if (method.getName().equals(name)) {
                return method;
            }
        }
        return null;
    }

    private static Object[] values(String written) {
        if (written.isEmpty()) {
            return new Object[0];
        }
        String[] texts = written.split(", ");
        Object[] values = new Object[texts.length];
        for (int k = 0; k < texts.length; k++) {
            boolean truth = texts[k].equals("true") || texts[k].equals("false");
            values[k] = truth ? (Object) Boolean.valueOf(texts[k]) : (Object) Integer.valueOf(texts[k]);
        }
        return values;
    }

    private static String answerOf(Method method, Object[] values) throws IllegalAccessException {
        try {
            return String.valueOf(method.invoke(sorter, values));
        } catch (InvocationTargetException e) {
            return e.getCause().getClass().getSimpleName();
        }
    }
}
