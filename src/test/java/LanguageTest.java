import java.io.IOException;
import java.nio.file.Files;
import java.nio.file.Path;
import java.util.regex.Matcher;
import java.util.regex.Pattern;

/** What a look at the source can tell of the rules of LANGUAGE.md; .ci/run names the file. */
public final class LanguageTest {
    private static final String[] RULED_OUT = {
        "^\\s*(import|package)\\b", "\\b(throw|throws|try|catch|finally|assert|synchronized)\\b",
        "->", "::", "\\binstanceof\\b", "\\b(System|Objects|Thread|Random|Collections)\\b",
        "\\bString\\.(format|valueOf|join)\\b", "\\w+Exact\\(", "\\b(equals|hashCode|toString)\\(",
        "\"\\s*\\+|\\+\\s*\"", "\\bMath\\.(random|sqrt|pow|floor|ceil|round)\\b", "[^\\x00-\\x7f]",
        "^\\s*static\\s*\\{", "\\bstatic (?!final|int |long |boolean )", "\\t",
        // a remainder may be below 0, and is no index
        "\\[[^\\]]*%"
    };

    private static void look(String source, String ruledOut) {
        Matcher found = Pattern.compile(ruledOut, Pattern.MULTILINE).matcher(source);
        Check.due("the source, searched for " + ruledOut, found.find() ? found.group() : "", "");
    }

    private static String withoutComments(String source) {
        return source.replaceAll("(?s)/\\*.*?\\*/", "").replaceAll("(?m)//.*$", "");
    }

    public static void main(String[] args) throws IOException {
        String source = withoutComments(Files.readString(Path.of(args[0])));
        for (String ruledOut : RULED_OUT) {
            look(source, ruledOut);
        }
        int classes = source.split("\\bclass \\w+").length - 1;
        Check.due("whether there are more than 12 classes", classes > 12 ? 1 : 0, 0);
        Check.end();
    }
}
