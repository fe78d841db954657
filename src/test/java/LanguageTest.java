import java.lang.reflect.Constructor;
import java.lang.reflect.Field;
import java.lang.reflect.Method;
import java.lang.reflect.Modifier;
import java.nio.file.Files;
import java.nio.file.Path;
import java.util.Arrays;
import java.util.List;
import java.util.Set;
import java.util.TreeSet;

/** The face of the document, and those rules of LANGUAGE.md that can be seen from the class and its text. */
public final class LanguageTest {
    private static final String[] FACE = {
        "int start(int,int,int)", "int odds(int,int)", "int wait(int,int)", "int price(int,int)", "int spotOf(int,int)",
        "int clause(int,int,int,int)", "int clauseOf(int,int)", "int drop()", "int swap(int,int,int)",
        "long value(int,int,int,int)", "long mean(int,int,int,int)", "long valueAs(int,int,int,int)", "int chosen(int,int,int)",
        "int taken(int,int,int)", "int alike(int,int)", "int unlike(int,int)", "int most(int,int)",
        "long due(int,int,int,int)", "int dueDays(int,int,int)", "long failed(int,int,int,int,int)", "int dues(int,int,int,int)",
        "int feed(int,int)", "int text()", "int put(int,int)", "int take(int)", "int bagOf(int,int)", "int pour(int,int,int)",
        "int bagBest(int,int,int)", "int sum(int)", "int sheet(int,int,int)", "int cell(int,int,long)", "long read(int,int,int)",
        "int halve(int,int)", "int copy(int,int,int,int,int)", "int hold(int,int,long,long)", "int asClause(int,int)",
        "long asFraction(int,int)", "int compare(int,int,int,int)", "int image()", "int back()", "int count(int)"};
    private static final Set<String> CONSTANTS = Set.of("NONE", "BAD", "STATE", "FULL", "MUCH", "NOTHING", "PLACE", "KIND", "SIZE", "NO");
    private static final String[] FORBIDDEN = {"Double.", "Float.", "Exact(", "->", "::", "throw", "try", "catch", "finally", "import", "synchronized",
        "assert", "package", "protected", "Object", "Random", "Thread", "hashCode", "toString", "ordinal", "System.out", "nanoTime", "static {", "??"};

    public static void main(String[] args) throws Exception {
        Class<?> book = ClauseBook.class;
        Check.holds("public and final", Modifier.isPublic(book.getModifiers()) && Modifier.isFinal(book.getModifiers()));
        Set<String> names = publicMethods(book);
        for (Method m : book.getDeclaredMethods()) {
            if (!Modifier.isPublic(m.getModifiers()) && !m.isSynthetic()) Check.holds(m + " is private and named otherwise", Modifier.isPrivate(m.getModifiers()) && !names.contains(m.getName()));
        }
        for (Field f : book.getDeclaredFields()) {
            if (f.isSynthetic()) continue;
            Check.holds(f + " is of the face, or private", Modifier.isPublic(f.getModifiers()) == CONSTANTS.contains(f.getName()) && (Modifier.isPublic(f.getModifiers()) || Modifier.isPrivate(f.getModifiers())));
        }
        Constructor<?>[] made = book.getDeclaredConstructors();
        Check.holds("one public constructor", made.length == 1 && Modifier.isPublic(made[0].getModifiers()) && made[0].getParameterCount() == 0);
        Check.holds("at most twelve classes", book.getDeclaredClasses().length <= 12);
        for (Class<?> inside : book.getDeclaredClasses()) inside(inside, names);
        text(Files.readAllLines(Path.of("src/main/java/ClauseBook.java")));
        Check.end();
    }

    private static Set<String> publicMethods(Class<?> book) {
        Set<String> got = new TreeSet<>();
        Set<String> names = new TreeSet<>();
        for (Method m : book.getDeclaredMethods()) {
            if (!Modifier.isPublic(m.getModifiers())) continue;
            names.add(m.getName());
            StringBuilder said = new StringBuilder(m.getReturnType() + " " + m.getName() + "(");
            for (Class<?> type : m.getParameterTypes()) said.append(said.charAt(said.length() - 1) == '(' ? "" : ",").append(type);
            got.add(said + ")");
        }
        Set<String> want = new TreeSet<>(Arrays.asList(FACE));
        Check.holds("the face is the document's, got " + got, got.equals(want));
        return names;
    }

    private static void inside(Class<?> inside, Set<String> names) {
        Check.holds(inside + " is static and not public", Modifier.isStatic(inside.getModifiers()) && !Modifier.isPublic(inside.getModifiers()));
        int fields = 0;
        for (Field f : inside.getDeclaredFields()) {
            if (Modifier.isStatic(f.getModifiers())) Check.holds(f + " is final", Modifier.isFinal(f.getModifiers()));
            else fields++;
        }
        Check.holds(inside + " has at most twenty fields", fields <= 20);
        for (Method m : inside.getDeclaredMethods()) {
            if (!m.isSynthetic()) Check.holds(m + " is named otherwise than the face's", !names.contains(m.getName()));
            Check.holds(m + " takes at most seven", m.getParameterCount() <= 7);
        }
    }

    private static void text(List<String> lines) {
        int begun = 0;
        for (int i = 0; i < lines.size(); i++) {
            String line = lines.get(i);
            Check.holds("line " + (i + 1) + " is of signs 1 to 127", line.chars().allMatch(sign -> sign > 0 && sign < 128));
            String code = line.strip();
            if (code.startsWith("*") || code.startsWith("/*") || code.startsWith("//")) continue;
            Check.holds("line " + (i + 1) + " makes nothing but what is kept", !code.contains("new ") || code.contains("final ") || code.contains("[i] = new "));
            for (String word : FORBIDDEN) Check.holds("line " + (i + 1) + " has no '" + word + "'", !code.contains(word));
            if (code.endsWith("{") && code.contains("(") && !code.startsWith("for") && !code.startsWith("if") && !code.startsWith("}") && !code.startsWith("switch")) begun = i;
            if (code.equals("}")) Check.holds("method at line " + (begun + 1) + " has at most sixty lines", i - begun <= 60 || line.startsWith("}") || line.startsWith("    }"));
        }
    }
}
