import java.io.IOException;
import java.lang.reflect.Constructor;
import java.lang.reflect.Field;
import java.lang.reflect.Method;
import java.lang.reflect.Modifier;
import java.nio.file.Files;
import java.nio.file.Path;
import java.util.Set;
import java.util.regex.Matcher;
import java.util.regex.Pattern;

/** What can be seen of LANGUAGE.md's rules in the words of the source and in the sizes of its parts. */
public final class SourceTest {
    private static final String[] REFUSED = {
        "^\\s*package\\b", "^\\s*import\\b", "->", "::", "\\btry\\b", "\\bcatch\\b", "\\bfinally\\b",
        "\\bsynchronized\\b", "\\bassert\\b", "\\bfloat\\b", "\\bstatic\\s*\\{", "\\bvar\\b", "\\byield\\b",
        "\\bfinal double [A-Z]", "\\bMath\\.(?!max\\b|min\\b|abs\\b|floorDiv\\b|floorMod\\b)",
        "\\b(protected|volatile|transient|native|strictfp)\\b", "\\.class\\b", "@", "\\bwhile\\b", "\\bdo\\b",
        "\"\\s*\\+|\\+\\s*\"", "\\b(equals|hashCode|toString|getMessage)\\b", "\\bNaN\\b"
    };
    /** The source's own classes, and what it may use of the library (rules 4 and 6). */
    private static final Set<String> TYPES = Set.of("SteamBends", "Kind", "Pairs", "Shape", "Math",
        "IndexOutOfBoundsException", "IllegalArgumentException", "IllegalStateException");
    private static final int MOST_PARAMETERS = 7;
    private static final int MOST_LINES = 60;
    private static final int MOST_CLASSES = 12;
    private static final int MOST_FIELDS = 20;

    public static void main(String[] args) throws IOException {
        String source = Files.readString(Path.of("src/main/java/SteamBends.java"));
        Check.holds("texts hold characters 0 to 255", source.chars().allMatch(c -> c <= 255));
        String code = source.replaceAll("(?s)/\\*.*?\\*/", "").replaceAll("//[^\n]*", "");
        for (String refused : REFUSED) {
            Matcher found = Pattern.compile(refused, Pattern.MULTILINE).matcher(code);
            Check.holds("the source holds " + refused, !found.find());
        }
        thrown(code);
        loops(code);
        types(code.replaceAll("\"[^\"]*\"", "\"\""));
        methods(code);
        sizes();
        Check.end();
    }

    private static void thrown(String code) {
        Matcher thrown = Pattern.compile("\\bthrow\\b[^;]*;").matcher(code);
        while (thrown.find()) {
            Check.holds(thrown.group() + " is as rule 6 says", thrown.group().matches(
                    "throw new (IndexOutOfBounds|IllegalArgument|IllegalState)Exception\\(\"[^\"]*\"\\);"));
        }
    }

    // Rule 9: a counter that only the loop's own head changes, against a bound.
    private static void loops(String code) {
        Matcher loop = Pattern.compile("\\bfor \\(.*\\{\n").matcher(code);
        while (loop.find()) {
            Matcher head = Pattern.compile(
                    "for \\(int (\\w+) = \\w+; \\1 (?:<|<=|>) [^;|]+; \\1(?:\\+\\+| /= 2)\\) \\{\n").matcher(loop.group());
            boolean isCounted = head.matches();
            Check.holds(loop.group() + " counts against a bound", isCounted);
            if (isCounted) {
                String body = bodyBehind(code, loop.end());
                Check.holds(loop.group() + " changes its counter in its body", !Pattern.compile(
                        "\\b" + head.group(1) + "(\\+\\+|--| [-+*/%]?= )").matcher(body).find());
            }
        }
    }

    private static String bodyBehind(String code, int start) {
        int open = 1;
        int at = start;
        while (open > 0 && at < code.length()) {
            char c = code.charAt(at);
            open += c == '{' ? 1 : c == '}' ? -1 : 0;
            at++;
        }
        return code.substring(start, at);
    }

    private static void types(String code) {
        Matcher name = Pattern.compile("\\b[A-Z]\\w*[a-z]\\w*").matcher(code);
        while (name.find()) {
            Check.holds(name.group() + " is none of the names that the source may use", TYPES.contains(name.group()));
        }
    }

    // Rule 11: methods stay short.
    private static void methods(String code) {
        Matcher method = Pattern.compile(
                "^ +(?!for\\b|if\\b|switch\\b)\\w[\\w ]*\\([^;={}]*\\)[^;={}()]*\\{\n", Pattern.MULTILINE).matcher(code);
        int found = 0;
        while (method.find()) {
            found++;
            String body = bodyBehind(code, method.end());
            long lines = body.lines().count();
            Check.holds(method.group() + " has " + lines + " lines", lines <= MOST_LINES);
            // Rule 12: what a run makes is made by constructors alone, so that calls need no room.
            boolean isConstructor = method.group().matches(" +(public )?[A-Z]\\w*\\((?s:.*)");
            Check.holds(method.group() + " makes an object",
                    isConstructor || !Pattern.compile("(?<!throw )\\bnew\\b").matcher(body).find());
        }
        int declared = SteamBends.class.getDeclaredMethods().length;
        for (Class<?> inside : SteamBends.class.getDeclaredClasses()) {
            declared += inside.getDeclaredMethods().length;
        }
        Check.holds(found + " methods were found of " + declared, found >= declared);
    }

    private static void sizes() {
        Class<?>[] inside = SteamBends.class.getDeclaredClasses();
        Check.holds("there are too many classes", inside.length + 1 <= MOST_CLASSES);
        size(SteamBends.class);
        for (Class<?> type : inside) {
            size(type);
            Check.holds(type + " has classes inside", type.getDeclaredClasses().length == 0);
        }
    }

    private static void size(Class<?> type) {
        int fields = 0;
        for (Field field : type.getDeclaredFields()) {
            fields += Modifier.isStatic(field.getModifiers()) ? 0 : 1;
        }
        Check.holds(type + " has " + fields + " fields", fields <= MOST_FIELDS);
        for (Method method : type.getDeclaredMethods()) {
            Check.holds(method + " takes too many", method.getParameterCount() <= MOST_PARAMETERS);
        }
        for (Constructor<?> constructor : type.getDeclaredConstructors()) {
            Check.holds(constructor + " takes too many", constructor.getParameterCount() <= MOST_PARAMETERS);
        }
    }
}
