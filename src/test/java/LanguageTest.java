import java.io.IOException;
import java.nio.file.Files;
import java.nio.file.Path;
import java.util.List;
import java.util.regex.Matcher;
import java.util.regex.Pattern;

/** Some rules of LANGUAGE.md that can be seen in the text of the class. */
public final class LanguageTest {
    private static final String[] RULED_OUT = {
        "\\bthrow\\b", "\\btry\\b", "\\bcatch\\b", "\\bsynchronized\\b", "\\bassert\\b", "->", "::",
        "^package\\b", "\\bException\\b", "\\bSystem\\.(?!arraycopy)", "\\bRandom\\b", "\\bThread\\b",
        "Exact\\(", "\\bequals\\(", "\\bhashCode\\b", "\\btoString\\b", "static \\{", "\\bprotected\\b"};

    public static void main(String[] args) throws IOException {
        Due due = new Due("LanguageTest");
        List<String> lines = Files.readAllLines(Path.of("src/main/java/SittingDesk.java"));
        String code = withoutComments(String.join("\n", lines));
        for (String pattern : RULED_OUT) {
            Matcher m = Pattern.compile(pattern, Pattern.MULTILINE).matcher(code);
            due.is("rule 3, 4, 6, 13: " + pattern + " stands in it", m.find() ? 1 : 0, 0);
        }
        due.is("rule 11: methods of over sixty lines", longMethods(lines), 0);
        due.end();
    }

    private static String withoutComments(String text) {
        return text.replaceAll("(?s)/\\*.*?\\*/", "").replaceAll("//[^\n]*", "");
    }

    private static int longMethods(List<String> lines) {
        int many = 0;
        int start = 0;
        String indent = null;
        for (int i = 0; i < lines.size(); i++) {
            Matcher head = Pattern.compile("^( {4}| {8})(?!return|if|for|while|switch|do|private static final class)"
                + "\\w[^=;]*\\) \\{$").matcher(lines.get(i));
            if (indent == null && head.find()) {
                indent = head.group(1);
                start = i;
            } else if (indent != null && lines.get(i).equals(indent + "}")) {
                many += i - start + 1 > 60 ? 1 : 0;
                indent = null;
            }
        }
        return many;
    }
}
