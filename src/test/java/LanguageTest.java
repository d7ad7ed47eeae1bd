import java.nio.file.Files;
import java.nio.file.Path;
import java.util.regex.Matcher;
import java.util.regex.Pattern;

/** The rules of LANGUAGE.md that can be read off the program's text. */
public final class LanguageTest {
    private static final String[] FORBIDDEN = {
        "\\bthrow\\b", "\\bthrows\\b", "\\btry\\b", "\\bcatch\\b", "\\bsynchronized\\b", "\\bassert\\b", "\\bpackage\\b",
        "->", "::", "\\bprotected\\b", "\\bequals\\b", "\\bhashCode\\b", "\\btoString\\b", "Exact\\b",
        "\\bstatic\\s*\\{", "\\bThread\\b", "\\bRandom\\b", "\\bnanoTime\\b", "\\bcurrentTimeMillis\\b", "\\bjava\\.io\\b",
    };

    public static void main(String[] args) throws Exception {
        Check check = new Check();
        String text = Files.readString(Path.of("src/main/java/SealedRecords.java"));
        String code = text.replaceAll("(?s)/\\*.*?\\*/", " ").replaceAll("//[^\n]*", " ");
        for (String word : FORBIDDEN) {
            check.due("places with " + word, count(word, code), 0);
        }
        check.due("imports", count("\\bimport\\b", code), 0);
        check.due("static fields that are not final", count("\\bstatic (?!final|class)[A-Za-z\\[\\]]+ \\w+ *[=;]", code), 0);
        int classes = count("\\bclass\\b", code);
        check.yes("at most twelve classes, there are " + classes, classes <= 12);
        check.due("classes inside that are not static", count("(?m)^    +(private )?(final |abstract )*class", code), 0);
        longMethods(check, text);
        check.finish();
    }

    private static int count(String pattern, String text) {
        Matcher matcher = Pattern.compile(pattern).matcher(text);
        int found = 0;
        while (matcher.find()) {
            found++;
        }
        return found;
    }

    /** A method ends where a brace stands as far in as its first line does. */
    private static void longMethods(Check check, String text) {
        String[] lines = text.split("\n");
        Pattern head = Pattern.compile("^(    |        )([a-zA-Z][^=;]*)\\) \\{$");
        for (int i = 0; i < lines.length; i++) {
            Matcher matcher = head.matcher(lines[i]);
            if (matcher.matches() && !matcher.group(2).startsWith("if") && !matcher.group(2).startsWith("for")) {
                int end = i;
                while (!lines[end].equals(matcher.group(1) + "}")) {
                    end++;
                }
                check.yes("at most sixty lines in " + matcher.group(2) + ")", end - i < 60);
                check.yes("at most seven parameters in " + matcher.group(2) + ")", count(",", lines[i]) < 7);
            }
        }
    }
}
