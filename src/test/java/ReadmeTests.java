import java.io.File;
import java.lang.reflect.Method;
import java.lang.reflect.Modifier;
import java.nio.file.Files;
import java.nio.file.Path;
import java.util.regex.Matcher;
import java.util.regex.Pattern;

/** README.md says how the class is made, all its calls, what a refused one answers, and how its tests are run. */
final class ReadmeTests {
    private static final Pattern CALL = Pattern.compile("^\\| (\\d+) \\| `(\\w+)\\(([^)]*)\\)` \\|", Pattern.MULTILINE);
    private static final Pattern EXAMPLE = Pattern.compile("^x\\.(\\w+)\\(([^)]*)\\); +// (-?\\d+)", Pattern.MULTILINE);

    /** The calls of promises 2 to 37, in their order. */
    private static final String PROMISED = "voters say code weight quota weigh becomes turn exchange keep feed read of told"
        + " weightOf least chow trade leastLot swings see fits odds mean event after book looked judge image undo count"
        + " tape item peek shift";
    private static final int FIRST_PROMISED = 2;

    private final Checks checks = new Checks("ReadmeTests");
    private final String page;

    private ReadmeTests(String page) {
        this.page = page;
    }

    public static void main(String[] args) throws Exception {
        ReadmeTests tests = new ReadmeTests(Files.readString(Path.of("README.md")));
        tests.calls();
        tests.promises();
        tests.example();
        tests.refusals();
        tests.commands();
        tests.checks.end();
    }

    private void calls() {
        int shown = 0;
        for (Matcher m = CALL.matcher(page); m.find(); shown++) {
            checks.holds("a call of the class: " + m.group(2), method(m.group(2), given(m.group(3)).length) != null);
        }
        int due = 0;
        for (Method m : WeighedLots.class.getDeclaredMethods()) {
            if (Modifier.isPublic(m.getModifiers())) {
                due++;
                checks.holds("it has " + m.getName(), page.contains("| `" + m.getName() + "("));
            }
        }
        checks.due("calls on the page", shown, due);
    }

    /** Each call stands beside the number that the document gives it. */
    private void promises() {
        int promise = FIRST_PROMISED;
        for (String name : PROMISED.split(" ")) {
            checks.holds("promise " + promise + ", " + name, page.contains("| " + promise + " | `" + name + "("));
            promise++;
        }
    }

    private void example() throws Exception {
        checks.holds("how it is made", page.contains("WeighedLots x = new WeighedLots();"));
        WeighedLots x = new WeighedLots();
        int made = 0;
        for (Matcher m = EXAMPLE.matcher(page); m.find(); made++) {
            String[] given = given(m.group(2));
            Object[] numbers = new Object[given.length];
            for (int k = 0; k < given.length; k++) {
                numbers[k] = given[k].startsWith("'") ? (int) given[k].charAt(1) : Integer.parseInt(given[k]);
            }
            Number got = (Number) method(m.group(1), given.length).invoke(x, numbers);
            checks.due("example " + m.group(), got.longValue(), Long.parseLong(m.group(3)));
        }
        checks.holds("the example has calls", made > 0);
    }

    private void refusals() {
        refusal("NONE", WeighedLots.NONE);
        refusal("BAD", WeighedLots.BAD);
        refusal("STATE", WeighedLots.STATE);
        refusal("FULL", WeighedLots.FULL);
        checks.holds("NO", page.contains("| `NO` | `Long.MIN_VALUE` |"));
        checks.holds("tapes' refusals", page.contains("| -11, -12, -13, -14 |"));
    }

    private void refusal(String name, int number) {
        checks.holds(name, page.contains("| `" + name + "` | " + number + " |"));
    }

    private void commands() {
        checks.holds(".ci/run", page.contains("```sh\n.ci/run\n```") && new File(".ci/run").canExecute());
        for (String file : new File("src/test/java").list()) {
            if (file.endsWith("Tests.java")) {
                checks.holds(file, page.contains("| `" + file.substring(0, file.length() - 5) + "` |"));
            }
        }
    }

    private static String[] given(String text) {
        return text.isEmpty() ? new String[0] : text.split(", ");
    }

    private static Method method(String name, int parameters) {
        for (Method m : WeighedLots.class.getDeclaredMethods()) {
            if (Modifier.isPublic(m.getModifiers()) && m.getName().equals(name) && m.getParameterCount() == parameters) {
                return m;
            }
        }
        return null;
    }
}
