import java.nio.file.Files;
import java.nio.file.Path;
import java.util.List;
import java.util.Map;
import java.util.TreeMap;
import java.util.regex.Matcher;
import java.util.regex.Pattern;

/** The rules of LANGUAGE.md that can be seen from the text of the program; run from the project's folder. */
public final class FormTest {
    private static final Due DUE = new Due("FormTest");
    private static final List<String> NEVER = List.of(
        "\\b(throw|throws|try|catch|finally|synchronized|assert|import|package|native|volatile|transient|var)\\b",
        "->", "::", "\\bstatic\\s*\\{", "\\b(Random|Thread|System\\s*\\.\\s*(?!arraycopy)\\w+|Exact)\\b", "\\w+Exact\\b",
        "\\bprotected\\b", "@\\w+", "\\b(hashCode|toString)\\b", "[^\\x00-\\x7F]");

    private static final Pattern METHOD = Pattern.compile("( {4}| {8})(?:(?:public|private|static|final) )*[\\w\\[\\]]+ (\\w+)\\(.*\\) \\{");
    private static final Pattern CALL = Pattern.compile("(?<!new )\\b(\\w+)\\(");
    private static final int MOST_DEEP = 8;

    public static void main(String[] args) throws Exception {
        String text = Files.readString(Path.of("src/main/java/DustVote.java"));
        String code = text.replaceAll("(?s)/\\*.*?\\*/", "").replaceAll("//[^\\n]*", "").replaceAll("'.'", "' '");
        for (String never : NEVER) {
            Matcher found = Pattern.compile(never).matcher(code);
            DUE.is("no " + never + (found.find() ? ": " + found.group() : ""), found.reset().find() ? 1 : 0, 0);
        }
        lengths(text.split("\n"));
        depths(code.split("\n"));
        DUE.end();
    }

    /** Methods of like name are taken for one, which can only make a chain longer than it is. */
    private static void depths(String[] lines) {
        Map<String, String> bodies = new TreeMap<>();
        for (int i = 0; i < lines.length; i++) {
            Matcher head = METHOD.matcher(lines[i]);
            if (head.matches()) {
                StringBuilder body = new StringBuilder();
                for (int at = i + 1; at < lines.length && !lines[at].equals(head.group(1) + "}"); at++) {
                    body.append(lines[at]).append(' ');
                }
                bodies.merge(head.group(2), body.toString(), (one, other) -> one + other);
            }
        }
        DUE.is("the methods are found", bodies.size() > 60 ? 1 : 0, 1);
        for (String name : bodies.keySet()) {
            int deep = depth(name, bodies, 1);
            DUE.is("calls of " + name + " go at most eight deep, not " + deep, deep <= MOST_DEEP ? 1 : 0, 1);
        }
    }

    /** The program has no recursion: a chain that does not end is told as one that is too deep. */
    private static int depth(String name, Map<String, String> bodies, int from) {
        int most = from;
        Matcher call = CALL.matcher(bodies.get(name));
        while (from <= MOST_DEEP && call.find()) {
            if (bodies.containsKey(call.group(1))) {
                most = Math.max(most, depth(call.group(1), bodies, from + 1));
            }
        }
        return most;
    }

    /** A method begins at a line that ends in ") {" and ends at the next "}" that stands as far in. */
    private static void lengths(String[] lines) {
        for (int i = 0; i < lines.length; i++) {
            String in = lines[i].replaceAll("\\S.*", "");
            boolean begins = lines[i].endsWith(") {") && (in.length() == 4 || in.length() == 8 && lines[i].matches(" *(private |static )*\\w+ \\w+\\(.*"));
            int end = i;
            while (begins && end < lines.length && !lines[end].equals(in + "}")) {
                end++;
            }
            DUE.is("the method at line " + (i + 1) + " is at most 60 lines long", end - i < 60 ? 1 : 0, 1);
        }
    }
}
