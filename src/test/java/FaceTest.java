import java.io.IOException;
import java.lang.reflect.Constructor;
import java.lang.reflect.Executable;
import java.lang.reflect.Field;
import java.lang.reflect.Method;
import java.lang.reflect.Modifier;
import java.util.Arrays;
import java.util.Set;
import java.util.TreeSet;
import java.util.regex.Matcher;
import java.util.regex.Pattern;
import java.util.stream.Collectors;

/** The face of the document, all of it and nothing beside it (LANGUAGE.md, rules 1 and 5). */
public final class FaceTest {
    private static final String A = " IllegalArgumentException";
    private static final String S = " IllegalStateException";
    private static final Set<String> FACE = Set.of("int begin()" + S, "int look(int)" + A + S,
            "int put(int,int,boolean)" + A + S, "int note(int,int)" + A + S, "boolean read(int,int)" + A + S,
            "boolean told(int,int)" + A, "int commit(int)" + A + S, "int abort(int)" + A + S, "int pin(int)" + A,
            "int unpin(int)" + A, "int free()", "int rows()", "int latest()", "int least()", "int state(int)" + A,
            "int waits(int)" + A, "int ring(int)", "int conflicts(int,int)" + A);

    private static final Pattern METHOD = Pattern.compile(
            "(?<type>\\w+) (?<name>\\w+)\\((?<parameters>[^)]*)\\)(?: throws (?<thrown>[\\w, ]+))?");

    private FaceTest() {
    }

    public static void main(String[] args) throws IOException {
        String document = Document.read();
        if (!document.isEmpty()) {
            due("the methods of the document's code block", said(document, "    public (\\w+ \\w+\\(.*);"));
            due("the methods of the document's promises", said(document, "`(\\w+ \\w+\\(.*)`:.*"));
        }
        Class<?> face = VersionTrans.class;
        due("the class", Modifier.toString(face.getModifiers()), "public final");
        due("the package", face.getPackageName(), "");
        TreeSet<String> open = new TreeSet<>();
        TreeSet<String> openNames = new TreeSet<>();
        TreeSet<String> hiddenNames = new TreeSet<>();
        for (Method method : face.getDeclaredMethods()) {
            if (Modifier.isPrivate(method.getModifiers())) {
                hiddenNames.add(method.getName());
            } else {
                due(method.getName(), Modifier.toString(method.getModifiers()), "public");
                open.add(method.getReturnType() + " " + method.getName() + inside(method));
                openNames.add(method.getName());
            }
        }
        due("the methods", open);
        hiddenNames.retainAll(openNames);
        due("private methods with a name of the face", hiddenNames.toString(), "[]");
        for (Constructor<?> constructor : face.getDeclaredConstructors()) {
            due("the constructor", Modifier.toString(constructor.getModifiers()) + inside(constructor), "public()");
        }
        for (Field field : face.getDeclaredFields()) {
            boolean good = Modifier.isPrivate(field.getModifiers())
                    && (!Modifier.isStatic(field.getModifiers()) || Modifier.isFinal(field.getModifiers()));
            due("field " + field.getName() + " is private, and final if static", "" + good, "true");
        }
        for (Class<?> inside : face.getDeclaredClasses()) {
            due("class " + inside.getName() + " is static", "" + Modifier.isStatic(inside.getModifiers()), "true");
        }
        Runs.end();
    }

    /** The methods in those lines of the document, written as the class's own are. */
    private static TreeSet<String> said(String document, String line) {
        TreeSet<String> methods = new TreeSet<>();
        Matcher lines = Pattern.compile("^" + line + "$", Pattern.MULTILINE).matcher(document);
        while (lines.find()) {
            Matcher method = METHOD.matcher(lines.group(1));
            if (method.matches()) {
                String thrown = method.group("thrown") == null ? "" : " " + method.group("thrown").replace(",", "");
                methods.add(method.group("type") + " " + method.group("name") + "("
                        + method.group("parameters").replaceAll("(\\w+) \\w+", "$1").replace(" ", "") + ")" + thrown);
            }
        }
        return methods;
    }

    private static String inside(Executable executable) {
        String parameters = Arrays.stream(executable.getParameterTypes()).map(Class::getName)
                .collect(Collectors.joining(","));
        String thrown = Arrays.stream(executable.getExceptionTypes()).map(type -> " " + type.getSimpleName())
                .collect(Collectors.joining());
        return "(" + parameters + ")" + thrown;
    }

    private static void due(String what, TreeSet<String> methods) {
        due(what, methods.toString(), new TreeSet<>(FACE).toString());
    }

    private static void due(String what, String got, String want) {
        Runs.due("the face", what, got, want);
    }
}
