import java.io.IOException;
import java.nio.file.Files;
import java.nio.file.Path;
import java.util.regex.Matcher;
import java.util.regex.Pattern;

/** What can be seen of LANGUAGE.md's rules in the words of the source. */
public final class SourceTest {
    private static final String[] REFUSED = {
        "^\\s*package\\b", "^\\s*import\\b", "->", "::", "\\btry\\b", "\\bcatch\\b", "\\bfinally\\b",
        "\\bsynchronized\\b", "\\bassert\\b", "\\bNaN\\b", "\\bfloat\\b", "\\bstatic\\s*\\{", "\\bSystem\\b",
        "\\bfinal double [A-Z]", "\\bMath\\.(?!max\\b|min\\b|abs\\b|floorDiv\\b|floorMod\\b)"
    };

    public static void main(String[] args) throws IOException {
        String source = Files.readString(Path.of("src/main/java/SteamBends.java"));
        String code = source.replaceAll("(?s)/\\*.*?\\*/", "").replaceAll("//[^\n]*", "");
        for (String refused : REFUSED) {
            Matcher found = Pattern.compile(refused, Pattern.MULTILINE).matcher(code);
            Check.holds("the source holds " + refused, !found.find());
        }
        Matcher thrown = Pattern.compile("\\bthrow\\b[^;]*;").matcher(code);
        while (thrown.find()) {
            Check.holds(thrown.group() + " is as rule 6 says", thrown.group().matches(
                    "throw new (IndexOutOfBounds|IllegalArgument|IllegalState)Exception\\(\"[^\"]*\"\\);"));
        }
        Check.end();
    }
}
