import java.io.IOException;
import java.nio.charset.StandardCharsets;
import java.nio.file.Files;
import java.nio.file.Path;
import java.util.regex.Matcher;
import java.util.regex.Pattern;

/** Those rules of LANGUAGE.md that can be seen from words of the source. Its path is the one argument. */
public final class RulesTest {
    private static final String[] RULED_OUT = {
        "\\b(throw|throws|try|catch|finally|synchronized|assert|import|package|native|volatile)\\b",
        "->", "::", "\\bExact\\b|\\w+Exact\\(",
        "\\b(equals|hashCode|toString|getClass|String\\.format|System\\.(?!arraycopy)\\w+)\\b",
        "\\b(Object|Exception|Error|Thread|Random|File|HashMap|Map|Set|Collections|Scanner|Stream)\\b",
        "\\?>|<\\?", "\\bvar\\b", "\\bstatic\\s*\\{", "\"\\s*\\+|\\+\\s*\"", "\\[\\]\\s*\\[\\]\\s*\\[\\]",
        "\\bwhile\\s*\\(\\s*true|for\\s*\\(\\s*;\\s*;",
    };
    private static final int LONGEST_METHOD = 60;
    private static final int MOST_CLASSES = 12;

    public static void main(String[] args) throws IOException {
        Due due = new Due("the rules");
        Path path = Path.of(args.length > 0 ? args[0] : "src/main/java/EachEye.java");
        String source = Files.readString(path, StandardCharsets.UTF_8);
        String code = withoutComments(source);
        for (String words : RULED_OUT) {
            Matcher found = Pattern.compile(words).matcher(code);
            due.same("what matches " + words, found.find() ? found.group() : "nothing", "nothing");
        }
        due.yes("its signs are plain", source.chars().allMatch(sign -> sign == '\n' || sign >= 32 && sign < 127));
        due.yes("it has few classes", occurrences("\\b(class|interface|enum|record)\\s+[A-Z]", code) <= MOST_CLASSES);
        due.same("static fields that are not final",
                occurrences("\\bstatic\\s+(?!final\\b)\\w+(\\[\\])?\\s+\\w+\\s*[=;,]", code), 0);
        due.yes("its methods are short", longestMethod(code) <= LONGEST_METHOD);
        due.end();
    }

    private static String withoutComments(String source) {
        return source.replaceAll("(?s)/\\*.*?\\*/", "").replaceAll("//[^\n]*", "");
    }

    private static int occurrences(String words, String code) {
        Matcher found = Pattern.compile(words).matcher(code);
        int times = 0;
        while (found.find()) {
            times++;
        }
        return times;
    }

    /** Lines from one that opens a method's body to the closing brace of the same indent. */
    private static int longestMethod(String code) {
        int longest = 0;
        String[] lines = code.split("\n");
        for (int from = 0; from < lines.length; from++) {
            if (lines[from].matches(" +.*\\) \\{") && !lines[from].matches(" +(\\} else )?(if|for|while|switch) .*")) {
                String close = lines[from].replaceAll("\\S.*", "") + "}";
                int to = from;
                while (to < lines.length && !lines[to].equals(close)) {
                    to++;
                }
                longest = Math.max(longest, to - from + 1);
            }
        }
        return longest;
    }
}
