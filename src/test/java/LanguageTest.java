import java.io.IOException;
import java.lang.reflect.Executable;
import java.lang.reflect.Field;
import java.lang.reflect.Modifier;
import java.nio.file.Files;
import java.nio.file.Path;
import java.util.ArrayList;
import java.util.Arrays;
import java.util.List;
import java.util.Set;
import java.util.TreeSet;
import java.util.regex.Matcher;
import java.util.regex.Pattern;

/**
 * The rules of ../shared/LANGUAGE.md, as far as the text and the shape of the class can tell them. Where a rule
 * leaves more than the class needs, only what it needs passes: so a new word is looked up in the rules first.
 */
public final class LanguageTest {
    private static final Checks CHECKS = new Checks();
    private static final Path SOURCE = Path.of("src/main/java/FlipPages.java");

    private static final Set<String> IMPORTS = Set.of("java.util.Arrays");
    private static final Set<String> LIBRARY = Set.of("Arrays.fill", "System.arraycopy", "Long.bitCount");
    private static final Set<Class<?>> CONSTANTS = Set.of(int.class, long.class, boolean.class, char.class,
            String.class, int[].class, long[].class, char[].class, byte[].class);
    private static final Set<Class<?>> TYPES = Set.of(int.class, long.class, boolean.class, int[].class,
            long[].class, boolean[].class, int[][].class);

    /** Without comments and without what stands between quotes. */
    private static String code;

    public static void main(String[] args) throws IOException {
        String text = Files.readString(SOURCE);
        code = text.replaceAll("\"(\\\\.|[^\"\\\\])*\"", "\"\"").replaceAll("(?s)/\\*.*?\\*/|//[^\n]*", "");
        CHECKS.sentence("rule 1, one file and one public class", LanguageTest::oneClass);
        CHECKS.sentence("rule 2, classes inside, no lambda", LanguageTest::classesInside);
        CHECKS.sentence("rule 3, types", LanguageTest::types);
        CHECKS.sentence("rule 4, the library", LanguageTest::library);
        CHECKS.sentence("rule 5, static fields", LanguageTest::staticFields);
        CHECKS.sentence("rule 6, exceptions", LanguageTest::exceptions);
        CHECKS.sentence("rule 9, every loop has an end", LanguageTest::loops);
        CHECKS.sentence("rule 10, texts", () -> CHECKS.same("joined by +", found("\"\" *\\+|\\+ *\"\""), "[]"));
        CHECKS.sentence("rule 11, sizes", LanguageTest::sizes);
        CHECKS.sentence("rule 12, no call makes an object but what it throws", LanguageTest::nothingIsMade);
        CHECKS.sentence("rule 13, the same calls give the same answers",
                () -> CHECKS.same("other words", found("\\b(random|nanoTime|currentTimeMillis|hashCode)\\b"), "[]"));
        CHECKS.end();
    }

    /** All that the pattern finds in the code, each once. */
    private static String found(String pattern) {
        Matcher matcher = Pattern.compile(pattern).matcher(code);
        Set<String> all = new TreeSet<>();
        while (matcher.find()) {
            all.add(matcher.group());
        }
        return all.toString();
    }

    private static List<Class<?>> classes() {
        List<Class<?>> all = new ArrayList<>(Arrays.asList(FlipPages.class.getDeclaredClasses()));
        all.add(FlipPages.class);
        return all;
    }

    private static void oneClass() {
        CHECKS.same("the package", FlipPages.class.getPackageName(), "");
        Set<String> inside = new TreeSet<>();
        for (Class<?> one : classes()) {
            inside.add("class " + one.getSimpleName());
        }
        CHECKS.same("all classes of the file", found("\\b(class|interface|enum|record) \\w+"), inside.toString());
    }

    private static void classesInside() {
        for (Class<?> inside : FlipPages.class.getDeclaredClasses()) {
            CHECKS.yes(inside + " is static", Modifier.isStatic(inside.getModifiers()));
            CHECKS.no(inside + " can be seen", Modifier.isPublic(inside.getModifiers())
                    || Modifier.isProtected(inside.getModifiers()));
        }
        CHECKS.same("lambdas and method references", found("->|::"), "[]");
    }

    private static void types() {
        for (Class<?> one : classes()) {
            for (Field field : one.getDeclaredFields()) {
                boolean own = classes().contains(field.getType());
                CHECKS.yes(field.toString(), own || TYPES.contains(field.getType()));
            }
        }
    }

    private static void library() {
        CHECKS.same("imports", found("(?<=import )[^;]*"), IMPORTS.toString());
        CHECKS.same("library calls", found("\\b[A-Z]\\w*\\.[a-z]\\w*(?=\\()"), new TreeSet<>(LIBRARY).toString());
        CHECKS.same("names with a path", found("\\bjava\\.(?!util\\.Arrays;)[\\w.]*"), "[]");
    }

    private static void staticFields() {
        for (Class<?> one : classes()) {
            for (Field field : one.getDeclaredFields()) {
                boolean isStatic = Modifier.isStatic(field.getModifiers());
                boolean constant = Modifier.isFinal(field.getModifiers()) && CONSTANTS.contains(field.getType());
                CHECKS.yes(field.toString(), !isStatic || constant);
            }
        }
        CHECKS.same("initialiser blocks", found("static *\\{"), "[]");
    }

    private static void exceptions() {
        CHECKS.same("what is thrown", found("\\bthrow\\b.*"),
                "[throw new IllegalArgumentException(\"\");, throw new IllegalStateException(\"\");]");
        CHECKS.same("words that are ruled out", found("\\b(try|catch|finally|synchronized|assert|instanceof)\\b"), "[]");
        String constructor = code.substring(code.indexOf("public FlipPages()"), code.indexOf("public void format()"));
        CHECKS.no("the constructor throws", constructor.contains("throw"));
    }

    private static void loops() {
        CHECKS.same("loops without a counter", found("\\b(while|do)\\b"), "[]");
        CHECKS.same("what the loops of a counter look like",
                found("for \\((?!int (\\w) = \\w+( \\+ 1)?; \\1 < [\\w.]+; \\1\\+\\+\\)).*"), "[]");
    }

    private static void sizes() {
        CHECKS.yes("at most 12 classes", classes().size() <= 12);
        for (Class<?> one : classes()) {
            long fields = Arrays.stream(one.getDeclaredFields())
                    .filter(field -> !Modifier.isStatic(field.getModifiers())).count();
            CHECKS.yes(one + " has at most 20 fields", fields <= 20);
            for (Executable method : one.getDeclaredMethods()) {
                CHECKS.yes(method + " has at most 7 parameters", method.getParameterCount() <= 7);
            }
        }
        // A class inside counts as one piece with its methods: so they stay shorter than they must.
        for (String method : code.split("(?m)^    \\}$")) {
            CHECKS.yes("at most 60 lines end in " + method.strip(), method.lines().count() <= 60);
        }
    }

    /** All calls of a run live in one room: what a call needs was made with the object. */
    private static void nothingIsMade() {
        String field = "(?m)^ +private final [^=(]* = new |^ +final [^=(]* = new ";
        String elsewhere = code.replaceAll(field, "").replaceAll("throw new ", "");
        CHECKS.no("an object is made by a call", Pattern.compile("\\bnew\\b").matcher(elsewhere).find());
        CHECKS.same("copies", found("\\b(clone|copyOf|copyOfRange|values)\\b"), "[]");
    }
}
