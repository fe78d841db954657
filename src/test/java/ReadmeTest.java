import java.io.File;
import java.io.IOException;
import java.lang.reflect.Method;
import java.lang.reflect.Modifier;
import java.nio.file.Files;
import java.nio.file.Path;
import java.util.ArrayList;
import java.util.List;
import java.util.Set;
import java.util.TreeSet;
import java.util.regex.Matcher;
import java.util.regex.Pattern;

/** README.md is there, and says how to use the class and how to run its tests, as it is. */
public final class ReadmeTest {
    private static final Path README = Path.of("README.md");
    private static final File TESTS = new File("src/test/java");
    private static final int PROMISES = 42;

    private static String readme = "";

    public static void main(String[] args) throws IOException {
        Check.holds("README.md is there", Files.isRegularFile(README));
        if (Files.isRegularFile(README)) {
            readme = Files.readString(README);
            examplesAnswerAsTheySay();
            examplesAreThoseOfThisTest();
            eachCallIsNamed();
            eachTestIsNamed();
            Check.holds("it says how all tests are run", readme.contains(".ci/run") && new File(".ci/run").canExecute());
        }
        eachPromiseHasATest();
        Check.end();
    }

    /** The lines between BEGIN and END are those of the examples: examplesAreThoseOfThisTest() looks at that. */
    private static void examplesAnswerAsTheySay() {
        // BEGIN
        ClauseBook book = new ClauseBook();
        book.start(10, 3, 2);
        book.odds(2, 3);
        book.wait(8, 9);
        int one = book.clause(1, 0, 0, 0);
        int priced = book.clause(4, 0, one, 0);
        int until = book.clause(8, 2, priced, 0);
        int free = book.clause(11, 0, until, 0);
        long above = book.value(free, 0, 0, 0);
        long below = book.value(free, 0, 0, 1);
        int day = book.taken(free, 0, 1);
        long due = book.due(free, 0, 1, 1);
        int days = book.dueDays(free, 0, 1);
        long left = book.failed(free, 0, 1, 1, 3);
        String words = "free until 2 priced one";
        for (int i = 0; i < words.length(); i++) book.feed(1, words.charAt(i) << 24);
        int told = book.text();
        int same = book.alike(told, free);
        int lies = book.put(0, free);
        int both = book.put(0, one);
        int best = book.bagBest(0, 0, 0);
        int sum = book.sum(0);
        book.sheet(0, 2, 7);
        int seven = book.dues(free, 0, 1, 0);
        long there = book.read(0, 1, 1);
        int held = book.hold(0, 2, 20, 2);
        int more = book.compare(0, free, 0, 0);
        int kept = book.image();
        int fewer = book.drop();
        int again = book.back();
        int refused = book.clause(2, 0, 9, 0);
        long no = book.value(9, 0, 0, 0);
        // END
        answers("one", one);
        answers("priced", priced);
        answers("until", until);
        answers("free", free);
        answers("above", above);
        answers("below", below);
        answers("day", day);
        answers("due", due);
        answers("days", days);
        answers("left", left);
        answers("told", told);
        answers("same", same);
        answers("lies", lies);
        answers("both", both);
        answers("best", best);
        answers("sum", sum);
        answers("seven", seven);
        answers("there", there);
        answers("held", held);
        answers("more", more);
        answers("kept", kept);
        answers("fewer", fewer);
        answers("again", again);
        answers("refused", refused);
        answers("no", no);
    }

    /** README.md says behind the call what the variable becomes: a number, then a colon. */
    private static void answers(String variable, long got) {
        Matcher line = Pattern.compile("^(?:int|long) " + variable + " = .*// (-?[0-9]+):", Pattern.MULTILINE).matcher(readme);
        boolean said = line.find();
        Check.holds("README.md says what " + variable + " is", said);
        if (said) Check.due(variable + " of README.md", got, Long.parseLong(line.group(1)));
    }

    private static void examplesAreThoseOfThisTest() throws IOException {
        List<String> tried = new ArrayList<>();
        boolean between = false;
        for (String line : Files.readAllLines(Path.of("src/test/java/ReadmeTest.java"))) {
            String code = line.strip();
            if (code.equals("// END")) break;
            if (between) tried.add(code);
            if (code.equals("// BEGIN")) between = true;
        }
        List<String> shown = new ArrayList<>();
        boolean java = false;
        for (String line : readme.split("\n")) {
            if (line.startsWith("```")) java = line.equals("```java");
            else if (java) shown.add(line.replaceFirst("//.*", "").strip());
        }
        Check.holds("examples are those that are tried, " + shown + " " + tried, shown.equals(tried) && !shown.isEmpty());
    }

    private static void eachCallIsNamed() {
        for (Method m : ClauseBook.class.getDeclaredMethods()) {
            if (Modifier.isPublic(m.getModifiers())) Check.holds(m.getName() + " is named", readme.contains("`" + m.getName() + "`"));
        }
    }

    private static void eachTestIsNamed() {
        for (String file : filesOfTests()) {
            String name = file.replace(".java", "");
            if (name.endsWith("Test")) Check.holds(name + " is named", Pattern.compile("\\| .*\\b" + name + "\\b.* \\|").matcher(readme).find());
        }
    }

    /** Methods of tests are named for the promise that they look at: promise7, promise7Full .. */
    private static void eachPromiseHasATest() throws IOException {
        Set<Integer> tried = new TreeSet<>();
        for (String file : filesOfTests()) {
            Matcher method = Pattern.compile("void promise([0-9]+)[A-Za-z]*\\(").matcher(Files.readString(TESTS.toPath().resolve(file)));
            while (method.find()) tried.add(Integer.parseInt(method.group(1)));
        }
        for (int promise = 1; promise <= PROMISES; promise++) Check.holds("promise " + promise + " has a test", tried.contains(promise));
    }

    private static String[] filesOfTests() {
        String[] files = TESTS.list();
        return files == null ? new String[0] : files;
    }
}
