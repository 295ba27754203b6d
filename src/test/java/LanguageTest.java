import java.io.IOException;
import java.nio.file.Files;
import java.nio.file.Path;
import java.util.regex.Matcher;
import java.util.regex.Pattern;

/** What of ../shared/LANGUAGE.md can be seen in the signs of the program. */
public final class LanguageTest {
    private static final String[] RULED_OUT = {
        "\\bthrow\\b", "\\btry\\b", "\\bcatch\\b", "\\bsynchronized\\b", "\\bassert\\b", "\\bimport\\b",
        "\\bpackage\\b", "->", "::", "@", "\\bSystem\\.(?!arraycopy)", "\\bObject\\b", "\\bequals\\(",
        "\\bhashCode\\b", "\\btoString\\b", "Exact\\b", "\\bThread\\b", "\\bRandom\\b", "\\bvar\\b"};

    public static void main(String[] args) throws IOException {
        Checks checks = new Checks();
        String text = Files.readString(Path.of("src/main/java/FearLocks.java"));
        String code = text.replaceAll("(?s)/\\*.*?\\*/", "").replaceAll("//.*", "").replaceAll("'[^']+'", "0");
        for (String pattern : RULED_OUT) {
            Matcher found = Pattern.compile(pattern).matcher(code);
            checks.due("the program has " + pattern, found.find(), false);
        }
        Matcher classes = Pattern.compile("\\bclass [A-Z]").matcher(code);
        int count = 0;
        while (classes.find()) {
            count++;
        }
        checks.due("it has at most twelve classes, " + count, count <= 12, true);
        checks.due("its signs are 1 to 127", text.chars().allMatch(sign -> sign >= 1 && sign <= 127), true);
        checkMethods(checks, text);
        checks.finish();
    }

    /** Methods begin with a line that ends with { and end with a } below its first sign. */
    private static void checkMethods(Checks checks, String text) {
        String[] lines = text.split("\n");
        Pattern head = Pattern.compile("^( {4}| {8})(?!.*\\bclass\\b)[a-z].*\\) \\{$");
        for (int i = 0; i < lines.length; i++) {
            Matcher found = head.matcher(lines[i]);
            if (found.matches()) {
                int end = i;
                while (!lines[end].equals(found.group(1) + "}")) {
                    end++;
                }
                checks.due("short: " + lines[i].trim(), end - i + 1 <= 60, true);
                checks.due("seven parameters: " + lines[i].trim(), lines[i].split(",").length <= 7, true);
            }
        }
    }
}
