import java.lang.reflect.Method;
import java.net.URL;
import java.net.URLClassLoader;
import java.nio.charset.StandardCharsets;
import java.nio.file.Files;
import java.nio.file.Path;
import java.util.ArrayList;
import java.util.List;
import java.util.regex.Matcher;
import java.util.regex.Pattern;
import javax.tools.JavaCompiler;
import javax.tools.ToolProvider;

/** What README.md shows of the use of the class compiles, and each line answers what stands behind its '// ->'. */
public final class ReadmeTest {
    private static final Pattern ANSWERED = Pattern.compile("\\s*((int|boolean|char) (\\w+) = )?(.*);\\s*// -> (.*)");
    private static final Path PLACE = Path.of("build", "readme");

    public static void main(String[] args) throws Exception {
        List<String> lines = shown();
        List<String> due = new ArrayList<>();
        StringBuilder source = new StringBuilder("public class ReadmeShown {\n"
                + "    public static void run(java.util.List<String> got) {\n");
        for (String line : lines) {
            Matcher answered = ANSWERED.matcher(line);
            if (answered.matches()) {
                due.add(line.trim().replaceAll("\\s*//.*", "") + " -> " + answered.group(5).trim());
                source.append(told(line, answered));
            } else {
                source.append(line).append('\n');
            }
        }
        List<String> got = run(source.append("    }\n}\n").toString());
        Kit.due("lines that tell an answer", due.size() > 30, true);
        Kit.due("lines that were gone through", got.size(), due.size());
        for (int i = 0; i < due.size() && i < got.size(); i++) {
            Kit.due("README.md", got.get(i), due.get(i));
        }
        for (String name : new String[] {".ci/run", "../shared/DOC.md", "../shared/LANGUAGE.md"}) {
            Kit.due("README.md names " + name, Files.exists(Path.of(name)), true);
        }
        Kit.due(".ci/run can be run", Files.isExecutable(Path.of(".ci/run")), true);
        Kit.end();
    }

    /** The lines between ```java and ```. */
    private static List<String> shown() throws Exception {
        List<String> lines = new ArrayList<>();
        boolean isShown = false;
        for (String line : Files.readAllLines(Path.of("README.md"), StandardCharsets.UTF_8)) {
            if (line.startsWith("```")) {
                isShown = line.equals("```java");
            } else if (isShown) {
                lines.add(line);
            }
        }
        return lines;
    }

    /** A line that notes what the shown one answers. */
    private static String told(String line, Matcher answered) {
        String shown = line.trim().replaceAll("\\s*//.*", "") + " -> ";
        String note = "got.add(\"" + shown.replace("\\", "\\\\").replace("\"", "\\\"") + "\" + ";
        if (answered.group(1) != null) {
            return answered.group(1) + answered.group(4) + "; " + note + answered.group(3) + ");\n";
        }
        return "try { " + note + "String.valueOf(" + answered.group(4) + ").trim()); } catch (RuntimeException e) { "
                + note + "\"throws \" + e.getClass().getSimpleName()); }\n";
    }

    private static List<String> run(String source) throws Exception {
        Files.createDirectories(PLACE);
        Path file = PLACE.resolve("ReadmeShown.java");
        Files.write(file, source.getBytes(StandardCharsets.UTF_8));
        JavaCompiler compiler = ToolProvider.getSystemJavaCompiler();
        int failed = compiler.run(null, null, null, "-cp", System.getProperty("java.class.path"), "-d",
                PLACE.toString(), file.toString());
        Kit.due("README.md compiles", failed, 0);
        List<String> got = new ArrayList<>();
        if (failed == 0) {
            try (URLClassLoader loader = new URLClassLoader(new URL[] {PLACE.toUri().toURL()})) {
                Method method = loader.loadClass("ReadmeShown").getMethod("run", List.class);
                method.invoke(null, got);
            }
        }
        return got;
    }
}
