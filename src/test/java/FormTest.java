import java.nio.file.Files;
import java.nio.file.Path;
import java.util.List;
import java.util.regex.Matcher;
import java.util.regex.Pattern;

/** The rules of LANGUAGE.md that can be seen from the text of the program; run from the project's folder. */
public final class FormTest {
    private static final Due DUE = new Due("FormTest");
    private static final List<String> NEVER = List.of(
        "\\b(throw|throws|try|catch|finally|synchronized|assert|import|package|native|volatile|transient|var)\\b",
        "->", "::", "\\bstatic\\s*\\{", "\\b(Random|Thread|System\\s*\\.\\s*(?!arraycopy)\\w+|Exact)\\b", "\\w+Exact\\b",
        "\\bprotected\\b", "@\\w+", "\\b(hashCode|toString)\\b", "[^\\x00-\\x7F]");

    public static void main(String[] args) throws Exception {
        String text = Files.readString(Path.of("src/main/java/DustVote.java"));
        String code = text.replaceAll("(?s)/\\*.*?\\*/", "").replaceAll("//[^\\n]*", "").replaceAll("'.'", "' '");
        for (String never : NEVER) {
            Matcher found = Pattern.compile(never).matcher(code);
            DUE.is("no " + never + (found.find() ? ": " + found.group() : ""), found.reset().find() ? 1 : 0, 0);
        }
        lengths(text.split("\n"));
        DUE.end();
    }

    /** A method begins at a line that ends in ") {" and ends at the next "}" that stands as far in. */
    private static void lengths(String[] lines) {
        for (int i = 0; i < lines.length; i++) {
            String in = lines[i].replaceAll("\\S.*", "");
            boolean begins = lines[i].endsWith(") {") && (in.length() == 4 || in.length() == 8 && lines[i].matches(" *(private |static )*\\w+ \\w+\\(.*"));
            int end = i;
            while (begins && end < lines.length && !lines[end].equals(in + "}")) {
                end++;
            }
            DUE.is("the method at line " + (i + 1) + " is at most 60 lines long", end - i < 60 ? 1 : 0, 1);
        }
    }
}
