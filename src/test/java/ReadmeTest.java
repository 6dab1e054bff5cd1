import java.io.IOException;
import java.lang.reflect.Modifier;
import java.nio.file.Files;
import java.nio.file.Path;
import java.util.ArrayList;
import java.util.Arrays;
import java.util.List;
import java.util.Map;
import java.util.TreeMap;
import java.util.TreeSet;
import java.util.regex.Matcher;
import java.util.regex.Pattern;
import java.util.stream.Collectors;
import javax.tools.ToolProvider;

/** The calls that README.md shows: they are Java as they stand, they answer as it says, and none is left out. */
public final class ReadmeTest {
    private static final String MADE = "VersionTrans triples = new VersionTrans();";
    private static final Pattern CALL = Pattern.compile("(?:(?:int|boolean) (?<variable>\\w+) = )?"
            + "triples\\.(?<name>\\w+)\\((?<arguments>[^()]*)\\);\\s+"
            + "// (?<answer>-?\\d+|true|false|throws \\w+)(?:: .+)?");

    private static final TreeSet<String> SHOWN = new TreeSet<>();

    private ReadmeTest() {
    }

    public static void main(String[] args) throws IOException {
        List<List<String>> programs = programs(Files.readAllLines(Path.of("README.md")));
        for (int i = 0; i < programs.size(); i++) {
            Runs.check("README.md, program " + (i + 1), asRun(programs.get(i)));
        }
        Runs.due("README.md", "the calls that it shows", SHOWN.toString(), face().toString());
        Runs.due("README.md", "javac on its programs", "" + compile(programs), "0");
        Runs.end();
    }

    private static List<List<String>> programs(List<String> lines) {
        List<List<String>> programs = new ArrayList<>();
        boolean isInside = false;
        for (String line : lines) {
            if (line.startsWith("```")) {
                isInside = line.equals("```java");
                if (isInside) {
                    programs.add(new ArrayList<>());
                }
            } else if (isInside && !line.isBlank()) {
                programs.get(programs.size() - 1).add(line);
            }
        }
        return programs;
    }

    /** The lines of a program as those of a run; a variable stands for the answer that its line shows. */
    private static String asRun(List<String> program) {
        Map<String, String> variables = new TreeMap<>();
        StringBuilder run = new StringBuilder();
        if (!program.get(0).equals(MADE)) {
            Runs.fail("README.md: a program begins with: " + program.get(0));
        }
        for (String line : program.subList(1, program.size())) {
            Matcher call = CALL.matcher(line);
            if (!call.matches()) {
                Runs.fail("README.md: not a call with its answer: " + line);
                continue;
            }
            String answer = call.group("answer").replace("throws ", "throws.");
            if (call.group("variable") != null) {
                variables.put(call.group("variable"), answer);
            }
            String arguments = Arrays.stream(call.group("arguments").split(",")).map(String::strip)
                    .map(word -> variables.getOrDefault(word, word)).collect(Collectors.joining(", "));
            SHOWN.add(call.group("name"));
            run.append(call.group("name")).append('(').append(arguments).append(") = ").append(answer).append('\n');
        }
        return run.toString();
    }

    private static TreeSet<String> face() {
        TreeSet<String> names = new TreeSet<>();
        Arrays.stream(VersionTrans.class.getDeclaredMethods()).filter(method -> Modifier.isPublic(method.getModifiers()))
                .forEach(method -> names.add(method.getName()));
        return names;
    }

    private static int compile(List<List<String>> programs) throws IOException {
        StringBuilder source = new StringBuilder("final class Shown {\n");
        for (int i = 0; i < programs.size(); i++) {
            source.append("void shown").append(i).append("() {\n").append(String.join("\n", programs.get(i)))
                    .append("\n}\n");
        }
        Path folder = Files.createTempDirectory("readme");
        Path file = Files.writeString(folder.resolve("Shown.java"), source.append("}\n"));
        int answer = ToolProvider.getSystemJavaCompiler().run(null, null, null, "-Xlint:all", "-Werror", "-cp",
                System.getProperty("java.class.path"), "-d", folder.toString(), file.toString());
        Files.deleteIfExists(folder.resolve("Shown.class"));
        Files.delete(file);
        Files.delete(folder);
        return answer;
    }
}
