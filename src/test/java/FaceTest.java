import java.lang.reflect.Constructor;
import java.lang.reflect.Field;
import java.lang.reflect.Method;
import java.lang.reflect.Modifier;
import java.util.Arrays;
import java.util.TreeSet;

/** The public face of the document, and no other member that can be seen. */
public final class FaceTest {
    public static void main(String[] args) {
        Due due = new Due();
        due.sentence("public final class CallFrames {");
        due.holds("the class is public and final",
            Modifier.isPublic(CallFrames.class.getModifiers()) && Modifier.isFinal(CallFrames.class.getModifiers()));
        due.sentence("`NONE = -1`: None; in memory.");
        due.answer("NONE", -1, () -> CallFrames.NONE);
        due.sentence("## The public face");
        due.same("the methods", methodsDue().toString(), methods().toString());
        due.holds("no private method bears the name of a public one", namesAreApart());
        due.same("the fields", "[public static final int CallFrames.NONE]", fields().toString());
        due.same("the constructors", "[public CallFrames()]", constructors().toString());
        due.end();
    }

    private static TreeSet<String> methodsDue() {
        String argument = "java.lang.IllegalArgumentException";
        String state = "java.lang.IllegalStateException";
        String index = "java.lang.IndexOutOfBoundsException";
        return new TreeSet<>(Arrays.asList(
            "public void CallFrames.begin(int,int,int,boolean) throws " + argument,
            "public int CallFrames.add(int,int,int) throws " + argument + "," + state,
            "public int CallFrames.where(int,int) throws " + index,
            "public int CallFrames.about(int,int) throws " + index,
            "public int CallFrames.signature(int) throws " + index,
            "public int CallFrames.call()",
            "public int CallFrames.frame(int,int,int) throws " + argument,
            "public int CallFrames.place(int,int) throws " + index,
            "public int CallFrames.clear()"));
    }

    private static TreeSet<String> methods() {
        TreeSet<String> found = new TreeSet<>();
        for (Method method : CallFrames.class.getDeclaredMethods()) {
            if (!Modifier.isPrivate(method.getModifiers())) {
                found.add(method.toString());
            }
        }
        return found;
    }

    private static boolean namesAreApart() {
        TreeSet<String> seen = new TreeSet<>();
        for (Method method : CallFrames.class.getMethods()) {
            seen.add(method.getName());
        }
        for (Method method : CallFrames.class.getDeclaredMethods()) {
            if (Modifier.isPrivate(method.getModifiers()) && seen.contains(method.getName())) {
                return false;
            }
        }
        return true;
    }

    private static TreeSet<String> fields() {
        TreeSet<String> found = new TreeSet<>();
        for (Field field : CallFrames.class.getDeclaredFields()) {
            if (!Modifier.isPrivate(field.getModifiers())) {
                found.add(field.toString());
            }
        }
        return found;
    }

    private static TreeSet<String> constructors() {
        TreeSet<String> found = new TreeSet<>();
        for (Constructor<?> constructor : CallFrames.class.getDeclaredConstructors()) {
            found.add(constructor.toString());
        }
        return found;
    }
}
