import java.io.IOException;
import java.lang.reflect.Method;
import java.lang.reflect.Modifier;
import java.net.URL;
import java.net.URLClassLoader;
import java.nio.file.Files;
import java.nio.file.Path;
import java.util.regex.Matcher;
import java.util.regex.Pattern;
import javax.tools.ToolProvider;

/** The example of README.md is compiled and run as it stands there: every answer that it tells is the one given. */
public final class ReadmeTest {
    private static final Due due = new Due();
    private static final Path BUILD = Path.of("build/readme");
    private static final Pattern BLOCK = Pattern.compile("```java\n(.*?)```", Pattern.DOTALL);
    private static final Pattern LINE =
            Pattern.compile("(?:int (\\w+) = )?(town\\.\\w+\\(.*\\));\\s*// (-?\\d+|NONE|UNKNOWN|OUTSIDE|STATE|FULL): .*");

    public static void main(String[] args) throws IOException, ReflectiveOperationException {
        Matcher block = BLOCK.matcher(Files.readString(Path.of("README.md")));
        due.is("README.md has an example", block.find() ? 1 : 0, 1);
        String example = block.group(1);
        everyCallIsShown(example);
        run(example);
        due.end();
    }

    private static void everyCallIsShown(String example) {
        for (Method method : NamesOnIce.class.getDeclaredMethods()) {
            if (Modifier.isPublic(method.getModifiers())) {
                due.is("README.md shows " + method.getName(), example.contains("town." + method.getName() + "(") ? 1 : 0, 1);
            }
        }
    }

    private static void run(String example) throws IOException, ReflectiveOperationException {
        Files.createDirectories(BUILD);
        Path file = BUILD.resolve("Example.java");
        Files.writeString(file, programOf(example));
        int code = ToolProvider.getSystemJavaCompiler().run(null, null, null,
                "-cp", System.getProperty("java.class.path"), "-d", BUILD.toString(), file.toString());
        due.is("the example of README.md compiles", code, 0);
        if (code == 0) {
            try (URLClassLoader loader = new URLClassLoader(new URL[] {BUILD.toUri().toURL()})) {
                String[] rows = (String[]) loader.loadClass("Example").getMethod("rows").invoke(null);
                for (String row : rows) {
                    String[] parts = row.split("\t");
                    due.is("README.md: " + parts[0], Long.parseLong(parts[1]), Long.parseLong(parts[2]));
                }
            }
        }
    }

    /** Each line of the example, with a row of the call, what it answers and what README.md tells. */
    private static String programOf(String example) {
        StringBuilder text = new StringBuilder("public final class Example {\npublic static String[] rows() {\n");
        text.append("java.util.List<String> rows = new java.util.ArrayList<>();\n");
        for (String line : example.split("\n")) {
            Matcher told = LINE.matcher(line);
            if (told.matches()) {
                text.append(rowOf(told.group(1), told.group(2), told.group(3)));
            } else {
                due.is("README.md tells no answer: " + line, line.startsWith("town.") ? 1 : 0, 0);
                text.append(line).append("\n");
            }
        }
        return text.append("return rows.toArray(new String[0]);\n}\n}\n").toString();
    }

    private static String rowOf(String held, String call, String answer) {
        String made = held == null ? "" : "int " + held + " = " + call + ";\n";
        String got = held == null ? call : held;
        String want = Character.isUpperCase(answer.charAt(0)) ? "NamesOnIce." + answer : answer + "L";
        return made + "rows.add(\"" + call + "\\t\" + " + got + " + \"\\t\" + " + want + ");\n";
    }
}
