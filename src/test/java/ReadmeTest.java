import java.io.IOException;
import java.lang.reflect.InvocationTargetException;
import java.lang.reflect.Method;
import java.lang.reflect.Modifier;
import java.nio.file.Files;
import java.nio.file.Path;
import java.util.ArrayList;
import java.util.HashSet;
import java.util.List;
import java.util.Set;
import java.util.regex.Matcher;
import java.util.regex.Pattern;

/** Makes every call of README.md's examples and compares what it answers with what is told behind it. */
public final class ReadmeTest {
    private static final Pattern BLOCK = Pattern.compile("(?s)```java\n(.*?)```");
    private static final String NEW_OBJECT = "SteamBends bends = new SteamBends();";
    // A call, kept or not, and behind it the answer and (after a colon) a word on it.
    private static final Pattern CALL = Pattern.compile(
            "(?:(\\w+) \\w+ = )?bends\\.(\\w+)\\(([^()]*)\\);(?:\\s+// ([^\\s:]+)(?:: .*)?)?");

    private static final Set<String> answered = new HashSet<>();
    private static final Set<String> refused = new HashSet<>();

    public static void main(String[] args) throws IOException, IllegalAccessException {
        String readme = Files.readString(Path.of("README.md"));
        Matcher block = BLOCK.matcher(readme);
        while (block.find()) {
            examples(block.group(1));
        }
        for (Method method : face()) {
            String name = method.getName();
            Check.holds("README.md has no example of " + name, answered.contains(name));
            Check.holds("README.md has no refused example of " + name,
                    method.getExceptionTypes().length == 0 || refused.contains(name));
        }
        Check.holds("README.md does not tell of NONE", readme.contains("SteamBends.NONE"));
        Check.holds("README.md does not tell the command that runs the tests", readme.contains("\n    .ci/run\n"));
        Check.end();
    }

    private static List<Method> face() {
        List<Method> face = new ArrayList<>();
        for (Method method : SteamBends.class.getDeclaredMethods()) {
            if (Modifier.isPublic(method.getModifiers())) {
                face.add(method);
            }
        }
        return face;
    }

    private static void examples(String block) throws IllegalAccessException {
        SteamBends bends = null;
        for (String line : block.split("\n")) {
            Matcher call = CALL.matcher(line);
            if (line.equals(NEW_OBJECT)) {
                bends = new SteamBends();
            } else if (bends != null && call.matches()) {
                example(bends, call);
            } else {
                Check.holds("no example that can be tested: " + line, line.isBlank());
            }
        }
    }

    private static void example(SteamBends bends, Matcher call) throws IllegalAccessException {
        Method method = named(call.group(2));
        if (method == null) {
            Check.holds("there is no such call: " + call.group(), false);
            return;
        }
        String type = call.group(1);
        Check.holds(call.group() + " answers " + method.getReturnType(),
                type == null || type.equals(method.getReturnType().toString()));
        String told = call.group(4) == null ? "nothing" : call.group(4);
        String answer = answerOf(bends, method, call.group(3).split(", "));
        Check.holds(call.group() + " answered " + answer + ", told is " + told, answer.equals(told));
        (told.endsWith("Exception") ? refused : answered).add(method.getName());
    }

    private static Method named(String name) {
        for (Method method : face()) {
            if (method.getName().equals(name)) {
                return method;
            }
        }
        return null;
    }

    private static String answerOf(SteamBends bends, Method method, String[] words) throws IllegalAccessException {
        Class<?>[] types = method.getParameterTypes();
        Object[] arguments = new Object[types.length];
        for (int i = 0; i < types.length; i++) {
            arguments[i] = argument(types[i], words[i]);
        }
        try {
            Object answer = method.invoke(bends, arguments);
            return answer == null ? "nothing" : answer.toString();
        } catch (InvocationTargetException e) {
            return e.getCause().getClass().getSimpleName();
        }
    }

    private static Object argument(Class<?> type, String word) {
        if (type == int.class) {
            return Integer.valueOf(word);
        }
        if (type == boolean.class) {
            return Boolean.valueOf(word);
        }
        return word.equals("Double.NaN") ? Double.valueOf(Double.NaN) : Double.valueOf(word);
    }
}
