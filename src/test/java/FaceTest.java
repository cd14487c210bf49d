import java.lang.reflect.Constructor;
import java.lang.reflect.Field;
import java.lang.reflect.Method;
import java.lang.reflect.Modifier;
import java.util.TreeSet;

/** The face is the document's, and nothing else can be seen from outside. */
public final class FaceTest {
    private static final String DUE = String.join("\n",
            "public boolean GlobalRoutes.has(int,int,int,boolean) throws java.lang.IndexOutOfBoundsException",
            "public int GlobalRoutes.border(int,int,boolean,int) throws java.lang.IndexOutOfBoundsException,java.lang.IllegalArgumentException",
            "public int GlobalRoutes.capacity(int,int,boolean,int) throws java.lang.IndexOutOfBoundsException,java.lang.IllegalArgumentException",
            "public int GlobalRoutes.least(int) throws java.lang.IndexOutOfBoundsException",
            "public int GlobalRoutes.length(int) throws java.lang.IndexOutOfBoundsException",
            "public int GlobalRoutes.line(boolean,int,int) throws java.lang.IndexOutOfBoundsException,java.lang.IllegalArgumentException",
            "public int GlobalRoutes.net() throws java.lang.IllegalStateException",
            "public int GlobalRoutes.pin(int,int,int) throws java.lang.IndexOutOfBoundsException,java.lang.IllegalArgumentException,java.lang.IllegalStateException",
            "public int GlobalRoutes.rip(int) throws java.lang.IndexOutOfBoundsException",
            "public int GlobalRoutes.run(int) throws java.lang.IllegalArgumentException",
            "public int GlobalRoutes.told(int) throws java.lang.IllegalArgumentException",
            "public long GlobalRoutes.forget()",
            "public long GlobalRoutes.lead(int) throws java.lang.IndexOutOfBoundsException,java.lang.IllegalStateException");

    public static void main(String[] args) {
        Check check = new Check();
        Class<?> face = GlobalRoutes.class;
        check.sameText("the class", Modifier.toString(face.getModifiers()), "public final");
        check.sameText("methods", String.join("\n", seenMethods(face)), DUE);
        check.sameText("fields", String.join("\n", seenFields(face)), "public static final int GlobalRoutes.NONE");
        for (Constructor<?> made : face.getDeclaredConstructors()) {
            check.sameText("constructor", made.toGenericString(), "public GlobalRoutes(int,int,int)");
        }
        check.same("NONE", GlobalRoutes.NONE, -1);
        check.end();
    }

    private static TreeSet<String> seenMethods(Class<?> face) {
        TreeSet<String> seen = new TreeSet<>();
        for (Method method : face.getDeclaredMethods()) {
            if (!Modifier.isPrivate(method.getModifiers()) && !method.isSynthetic()) {
                seen.add(method.toString());
            }
        }
        return seen;
    }

    private static TreeSet<String> seenFields(Class<?> face) {
        TreeSet<String> seen = new TreeSet<>();
        for (Field field : face.getDeclaredFields()) {
            if (!Modifier.isPrivate(field.getModifiers()) && !field.isSynthetic()) {
                seen.add(field.toString());
            }
        }
        return seen;
    }
}
