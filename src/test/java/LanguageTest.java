import java.io.IOException;
import java.nio.charset.StandardCharsets;
import java.nio.file.Files;
import java.nio.file.Path;
import java.util.regex.Matcher;
import java.util.regex.Pattern;

/** What of LANGUAGE.md can be seen in the words of the source; .ci/run starts it in the project's directory. */
final class LanguageTest {
    private static final String[] FORBIDDEN = {"throw", "throws", "try", "catch", "finally", "synchronized", "assert",
        "package", "native", "volatile", "var", "protected", "->", "::", "Exact\\b", "System\\.(?!arraycopy)", "Float",
        "Double", "Object", "Thread", "Random", "HashMap", "Class\\b", "hashCode", "toString", "instanceof"};

    public static void main(String[] args) throws IOException {
        String source = Files.readString(Path.of("src/main/java/JoinedSketches.java"), StandardCharsets.UTF_8);
        Due.is("signs above 126", source.chars().filter(c -> c > 126).count(), 0);
        String code = source.replaceAll("/\\*(?s:.*?)\\*/", " ").replaceAll("//[^\n]*", " ");
        for (String word : FORBIDDEN) {
            boolean isWord = word.matches("[a-z]+");
            Matcher found = Pattern.compile(isWord ? "\\b" + word + "\\b" : word).matcher(code);
            Due.is("the source has " + word, found.find() ? 1 : 0, 0);
        }
        imports(code);
        objectsAreMadeInConstructors(code);
        Due.end();
    }

    static void imports(String code) {
        Matcher found = Pattern.compile("import ([^;]*);").matcher(code);
        while (found.find()) {
            Due.is("an import", found.group(1), "java.util.Arrays");
        }
    }

    /** All calls of a run share one room, so no call makes an object: each "new" stands in a field or a constructor. */
    static void objectsAreMadeInConstructors(String code) {
        String method = "";
        for (String line : code.split("\n")) {
            Matcher header = Pattern.compile("^ +(.*) (\\w+)\\([^;]*\\) \\{$").matcher(" " + line);
            if (header.find() && !line.matches(" +(if|for|while|switch|\\}).*")) {
                method = header.group(1).isBlank() || header.group(1).trim().equals("public") ? "" : header.group(2);
            }
            if (line.matches("^ +(private )?static final class .*|^ +private .*=.*")) {
                method = "";
            }
            if (line.contains("new ") && !method.isEmpty()) {
                Due.is("in " + method + ": " + line.trim(), 1, 0);
            }
        }
    }
}
