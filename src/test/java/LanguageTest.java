import java.io.IOException;
import java.nio.charset.StandardCharsets;
import java.nio.file.Files;
import java.nio.file.Path;
import java.util.List;
import java.util.regex.Pattern;

/** Those rules of ../shared/LANGUAGE.md that can be seen in the program's text. */
public final class LanguageTest {
    private static final String[] FORBIDDEN = {
        "->", "::", "@", "\\bfinally\\b", "\\bsynchronized\\b", "\\bassert\\b", "\\bpackage\\b", "static \\{", "\\btry\\b",
        "\\bcatch\\b", "\\bSystem\\b", "\\bequals\\(", "\\bhashCode\\b", "\\btoString\\b", "Exact\\(", "\\bvolatile\\b",
        "\\btransient\\b", "\\bnative\\b", "\\bprotected\\b", "\\bThread\\b", "\\bObject\\b", "\\bNaN\\b",
    };

    public static void main(String[] args) throws IOException {
        Path file = Path.of("src/main/java/BasketOffers.java");
        String text = Files.readString(file, StandardCharsets.UTF_8);
        for (String forbidden : FORBIDDEN) {
            Check.due("finding " + forbidden, Pattern.compile(forbidden).matcher(text).find(), false);
        }
        Check.due("characters beyond 127", text.chars().anyMatch(c -> c > 127), false);
        int classes = 0;
        int start = 0;
        List<String> lines = text.lines().toList();
        for (int i = 0; i < lines.size(); i++) {
            String line = lines.get(i);
            if (line.startsWith("import ")) {
                Check.due("the import", line, "import java.util.NoSuchElementException;");
            }
            classes += line.matches("\\s*(public|private).* class .*\\{") ? 1 : 0;
            if (line.matches(" {4,8}\\S.*\\(.*\\{") || line.matches(" {4,8}\\S.*\\([^;]*")) {
                start = i;
            }
            if (line.matches(" {4,8}\\}")) {
                Check.due("that lines " + start + " to " + i + " are at most 60", i - start <= 60, true);
            }
        }
        Check.due("that there are at most twelve classes", classes <= 12, true);
        Check.end();
    }
}
