import java.io.IOException;
import java.nio.charset.StandardCharsets;
import java.nio.file.Files;
import java.nio.file.Path;
import java.util.List;
import java.util.regex.Matcher;
import java.util.regex.Pattern;

/** What can be told by the words of the source of ../shared/LANGUAGE.md's rules. */
public final class LanguageTest {
    private static final Path SOURCE = Path.of("src/main/java/PegClerks.java");
    private static final int LONGEST_METHOD = 60;
    private static final int MOST_CLASSES = 12;
    private static final String[] RULED_OUT = {
        "throw", "throws", "try", "catch", "finally", "synchronized", "assert", "import", "package", "protected",
        "hashCode", "toString", "var", "Object", "System\\.(?!arraycopy)", "Thread", "Random", "->", "::", "\\w+Exact"};

    public static void main(String[] args) throws IOException {
        String text = Files.readString(SOURCE, StandardCharsets.ISO_8859_1);
        String code = text.replaceAll("(?s)/\\*.*?\\*/", "").replaceAll("//.*", "");
        for (String word : RULED_OUT) {
            String edge = word.matches("\\w+") ? "\\b" : "";
            Checks.due("lines with " + word, found(code, edge + word + edge), 0);
        }
        Checks.due("static fields that are not final",
            found(code, "(?m)^\\s*(private |public )?static (?!final )[^(]*[;=]"), 0);
        Checks.due("more than twelve classes",
            found(code, "\\b(class|record|enum|interface) [A-Z]") > MOST_CLASSES ? 1 : 0, 0);
        Checks.due("signs that are none of ASCII", found(text, "[^\\x09\\x0a\\x20-\\x7e]"), 0);
        Checks.due("objects made anywhere but in final fields", found(code, "(?m)^(?!.*\\bfinal ).*\\bnew "), 0);
        shortMethods(Files.readAllLines(SOURCE));
        Checks.end();
    }

    private static int found(String text, String what) {
        Matcher matcher = Pattern.compile(what).matcher(text);
        int many = 0;
        while (matcher.find()) {
            many++;
        }
        return many;
    }

    private static void shortMethods(List<String> lines) {
        int head = -1;
        String end = "";
        for (int line = 0; line < lines.size(); line++) {
            String text = lines.get(line);
            if (text.matches("( {4}| {8})\\S.*\\) \\{")) {
                head = line;
                end = text.substring(0, text.length() - text.stripLeading().length()) + "}";
            } else if (head >= 0 && text.equals(end)) {
                Checks.due("too long is the method at line " + (head + 1), line - head > LONGEST_METHOD ? 1 : 0, 0);
                head = -1;
            }
        }
    }
}
