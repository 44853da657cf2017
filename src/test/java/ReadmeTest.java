import java.io.File;
import java.lang.reflect.Method;
import java.lang.reflect.Modifier;
import java.nio.file.Files;
import java.nio.file.Path;
import java.util.Set;
import java.util.TreeSet;
import java.util.regex.Matcher;
import java.util.regex.Pattern;

/** What README.md says is so: the answers of its examples, and that its tables name all calls and all tests. */
public final class ReadmeTest {
    private static final Pattern CALL = Pattern.compile("x\\.(\\w+)\\(([-0-9, ]*)\\);\\s+// (-?\\d+): .+");
    private static final Pattern FED = Pattern.compile("for \\(char letter : \"([^\"]*)\"\\.toCharArray\\(\\)\\) x\\.feed\\(letter\\);");
    private static final String NEW = "AheadOfAFriend x = new AheadOfAFriend();";

    private final Check c = new Check();
    private final String page;
    private AheadOfAFriend x;

    private ReadmeTest(String page) {
        this.page = page;
    }

    public static void main(String[] args) throws Exception {
        ReadmeTest t = new ReadmeTest(Files.readString(Path.of("README.md")));
        t.examples();
        t.calls();
        t.refusals();
        t.tests();
        t.c.end();
    }

    private void examples() {
        c.promise("README, examples");
        int many = 0;
        Matcher block = Pattern.compile("(?s)```java\n(.*?)```").matcher(page);
        while (block.find()) {
            x = null;
            for (String line : block.group(1).split("\n")) {
                example(line);
                many++;
            }
        }
        c.holds("there are some", many > 30);
    }

    private void example(String line) {
        Matcher call = CALL.matcher(line);
        Matcher fed = FED.matcher(line);
        if (line.equals(NEW)) {
            x = new AheadOfAFriend();
        } else if (x != null && fed.matches()) {
            Check.feedAll(x, fed.group(1));
        } else if (x != null && call.matches()) {
            c.due(line, Probe.call(x, call.group(1), numbers(call.group(2))), Long.parseLong(call.group(3)));
        } else {
            c.holds("a line that can be looked at: " + line, false);
        }
    }

    private static int[] numbers(String list) {
        if (list.isBlank()) {
            return new int[0];
        }
        String[] parts = list.split(",");
        int[] numbers = new int[parts.length];
        for (int i = 0; i < parts.length; i++) {
            numbers[i] = Integer.parseInt(parts[i].trim());
        }
        return numbers;
    }

    private String section(String title) {
        Matcher m = Pattern.compile("(?ms)^#+ " + title + "$(.*?)(?=^#+ |\\z)").matcher(page);
        return m.find() ? m.group(1) : "";
    }

    private static Set<String> all(String of, String pattern) {
        Set<String> found = new TreeSet<>();
        Matcher m = Pattern.compile(pattern).matcher(of);
        while (m.find()) {
            found.add(m.group(1));
        }
        return found;
    }

    private void calls() {
        c.promise("README, the calls");
        Set<String> face = new TreeSet<>();
        for (Method m : AheadOfAFriend.class.getDeclaredMethods()) {
            if (Modifier.isPublic(m.getModifiers())) {
                face.add(m.getName());
            }
        }
        Set<String> named = all(section("The calls"), "`(\\w+)`");
        c.holds("the table names " + named, named.equals(face));
    }

    /** The numbers that it names; what is so of refusals themselves RefusalTest looks at. */
    private void refusals() {
        c.promise("README, refusals");
        String told = section("Refusals");
        c.holds("BAD", told.contains("`BAD` (" + AheadOfAFriend.BAD));
        c.holds("STATE", told.contains("`STATE` (" + AheadOfAFriend.STATE));
        c.holds("FULL", told.contains("`FULL` (" + AheadOfAFriend.FULL));
        c.holds("NONE", told.contains("`NONE` (" + AheadOfAFriend.NONE));
        c.holds("people()'s -12 is told of", told.contains("`people()` answers -12"));
    }

    private void tests() {
        c.promise("README, tests");
        Set<String> there = new TreeSet<>();
        Set<String> helpers = new TreeSet<>();
        for (File file : new File("src/test/java").listFiles()) {
            String name = file.getName().replace(".java", "");
            (name.endsWith("Test") ? there : helpers).add(name);
        }
        String told = section("Tests");
        Set<String> named = all(told, "(?m)^\\| (\\w+Test) \\|");
        c.holds("the table names " + named, named.equals(there));
        for (String helper : helpers) {
            c.holds(helper + " is told of", told.contains("`" + helper + "`"));
        }
        c.holds(".ci/run can be run", new File(".ci/run").canExecute());
    }
}
