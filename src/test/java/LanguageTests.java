import java.io.IOException;
import java.nio.file.Files;
import java.nio.file.Path;
import java.util.List;
import java.util.regex.Matcher;
import java.util.regex.Pattern;

/** Looks through the source for what ../shared/LANGUAGE.md rules out, as far as a look at the words can tell. */
public final class LanguageTests {
    private static final List<String> FORBIDDEN = List.of(
            "->", "::", "\\bimport\\b", "\\bpackage\\b", "\\bcatch\\b", "\\btry\\b", "\\bfinally\\b",
            "\\bsynchronized\\b", "\\bassert\\b", "\\bstatic\\s*\\{", "Exact\\b", "\\bSystem\\.(?!arraycopy)",
            "\\bvar\\b", "\\bThread\\b", "\\bRandom\\b", "\\bequals\\b", "\\bhashCode\\b", "\\btoString\\b",
            "\"\\s*\\+", "\\+\\s*\"", "\\bMAX_VALUE\\b", "\\bMIN_VALUE\\b", "[^\\x00-\\x7f]",
            "\\b(Math|Integer|Long)\\.(?!abs\\b|max\\b|min\\b|bitCount\\b)");
    private static final Checks checks = new Checks("LanguageTests");

    private LanguageTests() {
    }

    public static void main(String[] args) throws IOException {
        String source = Files.readString(Path.of("src/main/java/Quietpaper.java"));
        String code = source.replaceAll("(?s)/\\*.*?\\*/", "").replaceAll("//[^\n]*", "");
        for (String words : FORBIDDEN) {
            Matcher matcher = Pattern.compile(words).matcher(code);
            checks.due("what is ruled out by " + words, matcher.find() ? matcher.group() : "nothing", "nothing");
        }
        Matcher division = Pattern.compile("[/%]\\s*(\\w+)").matcher(code);
        while (division.find()) {
            checks.holds("a divisor that is never 0: " + division.group(1),
                    division.group(1).matches("[1-9]\\d*"));
        }
        Matcher thrown = Pattern.compile("throw new (\\w+)\\(([^)]*)\\)").matcher(code);
        while (thrown.find()) {
            checks.holds("a written text: " + thrown.group(), thrown.group(2).matches("\"[^\"]*\""));
        }
        sizes(code);
        checks.end();
    }

    private static void sizes(String code) {
        Matcher method = Pattern.compile("(?m)^( +)(?:public|private)[^;={}]*\\(([^)]*)\\)[^;={}]*\\{$").matcher(code);
        while (method.find()) {
            int end = code.indexOf("\n" + method.group(1) + "}", method.start());
            String body = code.substring(method.start(), end);
            checks.holds("a short method: " + method.group().trim(), body.split("\n").length <= 60);
            checks.holds("at most seven parameters: " + method.group().trim(),
                    method.group(2).split(",").length <= 7);
        }
    }
}
