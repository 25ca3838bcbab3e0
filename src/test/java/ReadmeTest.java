import java.io.File;
import java.io.IOException;
import java.lang.reflect.Method;
import java.lang.reflect.Modifier;
import java.nio.file.Files;
import java.nio.file.Path;
import java.util.ArrayList;
import java.util.Arrays;
import java.util.Collections;
import java.util.List;
import java.util.regex.Matcher;
import java.util.regex.Pattern;

/** README.md tells the class and its tests as they are. */
public final class ReadmeTest {
    private static final Pattern EXAMPLE =
        Pattern.compile("^(?:int (\\w+) = )?desk\\.(\\w+)\\(([^)]*)\\);\\s+// (-?\\d+): .*$");
    private static final Pattern CALL_ROW = Pattern.compile("^\\| `(\\w+)\\(([^)]*)\\)` \\|.*$");
    private static final Pattern RULE_ROW = Pattern.compile("^\\| (\\d) \\| .* \\| (NONE|\\d+) \\| (.*) \\|$");
    private static final Pattern TEST_ROW = Pattern.compile("^\\| `(\\w+Test)` \\|.*$");

    private final Due due = new Due("ReadmeTest");
    private final List<String> lines;

    private ReadmeTest(List<String> lines) {
        this.lines = lines;
    }

    public static void main(String[] args) throws IOException {
        new ReadmeTest(Files.readAllLines(Path.of("README.md"))).run();
    }

    private void run() {
        example();
        calls();
        rules();
        tests();
        due.end();
    }

    private List<Matcher> linesLike(Pattern pattern) {
        List<Matcher> found = new ArrayList<>();
        for (String line : lines) {
            Matcher m = pattern.matcher(line);
            if (m.matches()) {
                found.add(m);
            }
        }
        return found;
    }

    /** Makes the example's calls and holds the answers against what stands behind them. */
    private void example() {
        SittingDesk desk = new SittingDesk();
        String funnel = "";
        int funnelNumber = 0;
        List<String> names = new ArrayList<>();
        for (Matcher m : linesLike(EXAMPLE)) {
            int call = Arrays.asList(Calls.NAMES).indexOf(m.group(2));
            due.is(m.group(2) + " is a call", call >= 0 ? 1 : 0, 1);
            String[] words = m.group(3).isEmpty() ? new String[0] : m.group(3).split(", ");
            int[] numbers = new int[words.length];
            for (int i = 0; i < words.length; i++) {
                numbers[i] = words[i].equals(funnel) ? funnelNumber : number(words[i]);
            }
            int got = Calls.on(desk, call, numbers);
            if (m.group(1) != null) {
                funnel = m.group(1);
                funnelNumber = got;
            }
            due.is("example: " + m.group(2) + "(" + m.group(3) + ")", got, Integer.parseInt(m.group(4)));
            names.add(m.group(2));
        }
        due.is("calls of the face in the example", (int) names.stream().distinct().count(), Calls.NAMES.length);
    }

    private static int number(String word) {
        switch (word) {
            case "true": return 1;
            case "false": return 0;
            case "NONE":
            case "SittingDesk.NONE": return SittingDesk.NONE;
            default: return Integer.parseInt(word);
        }
    }

    private void calls() {
        List<String> want = new ArrayList<>();
        for (Method m : SittingDesk.class.getDeclaredMethods()) {
            if (Modifier.isPublic(m.getModifiers())) {
                want.add(m.getName() + " of " + m.getParameterCount());
            }
        }
        List<String> got = new ArrayList<>();
        for (Matcher m : linesLike(CALL_ROW)) {
            int many = m.group(2).isEmpty() ? 0 : m.group(2).split(", ").length;
            got.add(m.group(1) + " of " + many);
        }
        same("calls", got, want);
    }

    private void rules() {
        List<Matcher> rows = linesLike(RULE_ROW);
        due.is("rules", rows.size(), 6);
        for (int what = 0; what < rows.size(); what++) {
            SittingDesk x = new SittingDesk();
            due.is("rule's number", Integer.parseInt(rows.get(what).group(1)), what);
            String[] bounds = rows.get(what).group(3).split(", | \\.\\. ");
            int least = number(bounds[0]);
            int greatest = number(bounds[bounds.length - 1]);
            due.is("rule " + what + " at first", x.rule(what, least), number(rows.get(what).group(2)));
            due.is("rule " + what + " at its least", x.rule(what, greatest), least);
            due.is("rule " + what + " above its greatest", x.rule(what, greatest + 1), Due.OUTSIDE);
            due.is("rule " + what + " below its least", x.rule(what, least - 1), Due.OUTSIDE);
        }
    }

    private void tests() {
        List<String> want = new ArrayList<>();
        String[] files = new File("src/test/java").list();
        for (String file : files == null ? new String[0] : files) {
            if (file.endsWith("Test.java")) {
                want.add(file.substring(0, file.length() - ".java".length()));
            }
        }
        List<String> got = new ArrayList<>();
        for (Matcher m : linesLike(TEST_ROW)) {
            got.add(m.group(1));
        }
        same("tests", got, want);
    }

    private void same(String what, List<String> got, List<String> want) {
        Collections.sort(got);
        Collections.sort(want);
        due.is(what + " " + got + " for " + want, got.equals(want) ? 1 : 0, 1);
    }
}
