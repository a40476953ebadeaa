import java.io.IOException;
import java.lang.reflect.Field;
import java.lang.reflect.Method;
import java.lang.reflect.Modifier;
import java.nio.file.Files;
import java.nio.file.Path;
import java.util.Set;
import java.util.TreeSet;
import java.util.regex.MatchResult;
import java.util.regex.Pattern;

/**
 * The rules of ../shared/LANGUAGE.md that can be read off the class or its text. It is stricter than they are: of what
 * they leave, only that is let through which the class uses.
 */
public final class LanguageTest {
    private static final Set<String> TYPES_DUE = Set.of("int", "boolean", "int[]");
    private static final Set<String> LIBRARY_DUE = Set.of("Math.max", "Integer.bitCount");
    private static final int MOST_FIELDS = 20;
    private static final int MOST_PARAMETERS = 7;
    private static final int MOST_LINES = 60;

    public static void main(String[] args) throws IOException {
        Due due = new Due();
        String code = withoutComments(Files.readString(Path.of("src/main/java/CallFrames.java")));
        oneClass(due);
        fields(due);
        methods(due);
        words(due, code);
        library(due, code);
        exceptions(due, code);
        lengths(due, code);
        due.end();
    }

    private static String withoutComments(String text) {
        return text.replaceAll("(?s)/\\*.*?\\*/", "").replaceAll("//.*", "");
    }

    private static void oneClass(Due due) {
        due.answer("classes inside", 0, () -> CallFrames.class.getDeclaredClasses().length);
        due.holds("no package", CallFrames.class.getPackageName().isEmpty());
    }

    private static void fields(Due due) {
        int ofObject = 0;
        for (Field field : CallFrames.class.getDeclaredFields()) {
            due.holds("rule 3: " + field, TYPES_DUE.contains(field.getType().getSimpleName()));
            if (!Modifier.isStatic(field.getModifiers())) {
                ofObject++;
            } else {
                due.holds("rule 5: " + field, Modifier.isFinal(field.getModifiers())
                    && field.getType() == int.class);
            }
        }
        due.holds("rule 11: " + ofObject + " fields", ofObject <= MOST_FIELDS);
    }

    private static void methods(Due due) {
        for (Method method : CallFrames.class.getDeclaredMethods()) {
            due.holds("rule 2: " + method, !method.isSynthetic());
            due.holds("rule 11: " + method, method.getParameterCount() <= MOST_PARAMETERS);
        }
    }

    private static void words(Due due, String code) {
        due.same("rules 2, 5, 6, 13: words", "[]", found(code, "\\b(?:import|package|try|catch|finally|synchronized|"
            + "assert|native|volatile|transient|instanceof|float|double|long)\\b|->|::|static \\{").toString());
    }

    private static void library(Due due, String code) {
        for (String call : found(code, "\\b[A-Z]\\w*\\.\\w+(?=\\()")) {
            due.holds("rule 4: " + call, LIBRARY_DUE.contains(call));
        }
    }

    private static void exceptions(Due due, String code) {
        String thrown = "\\bthrow new (?:IllegalState|IllegalArgument|IndexOutOfBounds)Exception\\(\"[^\"]*\"\\);";
        due.same("rule 6: each throw", found(code, "\\bthrow\\b.*").toString(), found(code, thrown).toString());
        due.same("rules 6, 12: what is made", "[new IllegalArgumentException, new IllegalStateException,"
            + " new IndexOutOfBoundsException, new int]", found(code, "\\bnew \\w+").toString());
    }

    private static void lengths(Due due, String code) {
        for (String method : found(code, "(?ms)^    (?:public|private) [^;=]*?\\{$.*?^    \\}$")) {
            due.holds("rule 11: the length of " + method.lines().findFirst().orElse(""),
                method.lines().count() <= MOST_LINES);
        }
    }

    private static TreeSet<String> found(String code, String pattern) {
        TreeSet<String> texts = new TreeSet<>();
        Pattern.compile(pattern).matcher(code).results().map(MatchResult::group).forEach(texts::add);
        return texts;
    }
}
