import java.lang.reflect.Constructor;
import java.lang.reflect.Executable;
import java.lang.reflect.Field;
import java.lang.reflect.Method;
import java.lang.reflect.Modifier;
import java.util.Arrays;
import java.util.Set;
import java.util.TreeSet;
import java.util.stream.Collectors;

/** The face of the document, all of it and nothing beside it (LANGUAGE.md, rules 1 and 5). */
public final class FaceTest {
    private static final String A = " IllegalArgumentException";
    private static final String S = " IllegalStateException";
    private static final Set<String> FACE = Set.of("int begin()" + S, "int look(int)" + A + S,
            "int put(int,int,boolean)" + A + S, "int note(int,int)" + A + S, "boolean read(int,int)" + A + S,
            "boolean told(int,int)" + A, "int commit(int)" + A + S, "int abort(int)" + A + S, "int pin(int)" + A,
            "int unpin(int)" + A, "int free()", "int rows()", "int latest()", "int least()", "int state(int)" + A,
            "int waits(int)" + A, "int ring(int)", "int conflicts(int,int)" + A);

    private FaceTest() {
    }

    public static void main(String[] args) {
        Class<?> face = VersionTrans.class;
        due("the class", Modifier.toString(face.getModifiers()), "public final");
        due("the package", face.getPackageName(), "");
        TreeSet<String> open = new TreeSet<>();
        TreeSet<String> openNames = new TreeSet<>();
        TreeSet<String> hiddenNames = new TreeSet<>();
        for (Method method : face.getDeclaredMethods()) {
            if (Modifier.isPrivate(method.getModifiers())) {
                hiddenNames.add(method.getName());
            } else {
                due(method.getName(), Modifier.toString(method.getModifiers()), "public");
                open.add(method.getReturnType() + " " + method.getName() + inside(method));
                openNames.add(method.getName());
            }
        }
        due("the methods", open.toString(), new TreeSet<>(FACE).toString());
        hiddenNames.retainAll(openNames);
        due("private methods with a name of the face", hiddenNames.toString(), "[]");
        for (Constructor<?> constructor : face.getDeclaredConstructors()) {
            due("the constructor", Modifier.toString(constructor.getModifiers()) + inside(constructor), "public()");
        }
        for (Field field : face.getDeclaredFields()) {
            boolean good = Modifier.isPrivate(field.getModifiers())
                    && (!Modifier.isStatic(field.getModifiers()) || Modifier.isFinal(field.getModifiers()));
            due("field " + field.getName() + " is private, and final if static", "" + good, "true");
        }
        for (Class<?> inside : face.getDeclaredClasses()) {
            due("class " + inside.getName() + " is static", "" + Modifier.isStatic(inside.getModifiers()), "true");
        }
        Runs.end();
    }

    private static String inside(Executable executable) {
        String parameters = Arrays.stream(executable.getParameterTypes()).map(Class::getName)
                .collect(Collectors.joining(","));
        String thrown = Arrays.stream(executable.getExceptionTypes()).map(type -> " " + type.getSimpleName())
                .collect(Collectors.joining());
        return "(" + parameters + ")" + thrown;
    }

    private static void due(String what, String got, String want) {
        Runs.due("the face", what, got, want);
    }
}
