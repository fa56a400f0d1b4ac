import java.lang.reflect.Constructor;
import java.lang.reflect.Field;
import java.lang.reflect.Method;
import java.lang.reflect.Modifier;
import java.util.Set;
import java.util.TreeSet;

/** The public face: just the constants, the constructor and the methods of the document. */
final class FaceTest {
    private static final Set<String> METHODS = Set.of(
        "public int DeepStacks.expression(int,int,int,int)",
        "public int DeepStacks.body(int,int)",
        "public int DeepStacks.room(int)",
        "public int DeepStacks.run(int,int,int)",
        "public int DeepStacks.told(int)",
        "public int DeepStacks.note(int) throws java.util.NoSuchElementException",
        "public int DeepStacks.sort(long,int)",
        "public int DeepStacks.number(long,int) throws java.lang.IllegalArgumentException,"
            + "java.lang.NullPointerException,java.lang.ClassCastException",
        "public int DeepStacks.length()",
        "public int DeepStacks.height(int)");
    private static final Set<String> CONSTANTS = Set.of("NONE", "UNKNOWN", "OUTSIDE", "FULL");

    public static void main(String[] args) {
        Check check = new Check();
        check.due("NONE", DeepStacks.NONE, -1);
        check.due("UNKNOWN", DeepStacks.UNKNOWN, -101);
        check.due("OUTSIDE", DeepStacks.OUTSIDE, -102);
        check.due("FULL", DeepStacks.FULL, -104);
        check.due("modifiers", DeepStacks.class.getModifiers(), Modifier.PUBLIC | Modifier.FINAL);
        members(check);
        check.end();
    }

    private static void members(Check check) {
        Set<String> methods = new TreeSet<>();
        for (Method method : DeepStacks.class.getDeclaredMethods()) {
            if (!Modifier.isPrivate(method.getModifiers()) && !method.isSynthetic()) {
                methods.add(method.toGenericString());
            }
        }
        dueSame(check, methods, METHODS);
        Set<String> fields = new TreeSet<>();
        for (Field field : DeepStacks.class.getDeclaredFields()) {
            if (!Modifier.isPrivate(field.getModifiers()) && !field.isSynthetic()) {
                fields.add(field.getName());
            }
        }
        dueSame(check, fields, CONSTANTS);
        Constructor<?>[] constructors = DeepStacks.class.getDeclaredConstructors();
        check.due("constructors", constructors.length, 1);
        check.due("public", constructors[0].getModifiers(), Modifier.PUBLIC);
        check.due("parameters", constructors[0].getParameterCount(), 0);
    }

    private static void dueSame(Check check, Set<String> got, Set<String> want) {
        check.due("is the face's: " + got, got.equals(want) ? 1 : 0, 1);
    }
}
