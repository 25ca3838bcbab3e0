import java.io.IOException;
import java.nio.file.Files;
import java.nio.file.Path;
import java.util.ArrayList;
import java.util.List;
import java.util.regex.Pattern;

/** Some rules of LANGUAGE.md that can be seen in the text of the class. */
public final class LanguageTest {
    private static final String[] RULED_OUT = {
        "\\bthrow\\b", "\\btry\\b", "\\bcatch\\b", "\\bsynchronized\\b", "\\bassert\\b", "->", "::",
        "^package\\b", "^import\\b", "\\bException\\b", "\\bSystem\\.(?!arraycopy)", "\\bRandom\\b", "\\bThread\\b",
        "Exact\\(", "\\bequals\\(", "\\bhashCode\\b", "\\btoString\\b", "static \\{", "\\bprotected\\b"};
    private static final Pattern CLASS_INSIDE = Pattern.compile("^ +.*\\b(class|interface|enum|record) \\w+.*$");
    private static final Pattern HEAD = Pattern.compile("^( {4}| {8})(?!return|if|for|while|switch|do)"
        + "\\w[^=;]*\\) \\{$");
    private static final Pattern CONSTRUCTOR = Pattern.compile("^ +(public |private )?[A-Z]\\w*\\(.*$");

    private record Body(List<String> lines) {
        boolean isConstructor() {
            return CONSTRUCTOR.matcher(lines.get(0)).matches();
        }

        boolean makes() {
            return String.join("\n", lines).matches("(?s).*\\bnew\\b.*");
        }
    }

    public static void main(String[] args) throws IOException {
        Due due = new Due("LanguageTest");
        String code = withoutComments(Files.readString(Path.of("src/main/java/SittingDesk.java")));
        for (String pattern : RULED_OUT) {
            boolean found = Pattern.compile(pattern, Pattern.MULTILINE).matcher(code).find();
            due.is("rule 3, 4, 6, 13: " + pattern + " stands in it", found ? 1 : 0, 0);
        }
        List<String> lines = List.of(code.split("\n"));
        classesInside(due, lines);
        methods(due, lines);
        due.end();
    }

    private static String withoutComments(String text) {
        return text.replaceAll("(?s)/\\*.*?\\*/", "").replaceAll("//[^\n]*", "");
    }

    private static void classesInside(Due due, List<String> lines) {
        int many = 0;
        for (String line : lines) {
            if (CLASS_INSIDE.matcher(line).matches()) {
                many++;
                due.is("rule 2: static:" + line, line.contains("private static ") ? 1 : 0, 1);
            }
        }
        due.is("rule 11: at most twelve classes", many < 12 ? 1 : 0, 1);
    }

    private static void methods(Due due, List<String> lines) {
        List<Body> bodies = bodies(lines);
        due.is("at least the face was found", bodies.size() > 18 ? 1 : 0, 1);
        for (Body body : bodies) {
            String head = body.lines.get(0);
            due.is("rule 11: at most sixty lines:" + head, body.lines.size() > 60 ? 1 : 0, 0);
            // All calls of a run live in one room, so only constructors make objects.
            due.is("rule 12: makes objects:" + head, body.makes() && !body.isConstructor() ? 1 : 0, 0);
        }
    }

    private static List<Body> bodies(List<String> lines) {
        List<Body> found = new ArrayList<>();
        int start = -1;
        String end = "";
        for (int i = 0; i < lines.size(); i++) {
            String line = lines.get(i);
            if (start < 0 && HEAD.matcher(line).matches()) {
                start = i;
                end = line.startsWith("        ") ? "        }" : "    }";
            } else if (start >= 0 && line.equals(end)) {
                found.add(new Body(lines.subList(start, i + 1)));
                start = -1;
            }
        }
        return found;
    }
}
