import java.io.IOException;
import java.net.URL;
import java.net.URLClassLoader;
import java.nio.file.Files;
import java.nio.file.Path;
import java.util.ArrayList;
import java.util.List;
import java.util.regex.Matcher;
import java.util.regex.Pattern;
import javax.tools.JavaCompiler;
import javax.tools.ToolProvider;

/** README.md: its lines of Java compile and answer what stands behind them; the tests and files it names are there. */
public final class ReadmeTest {
    private static final Path README = Path.of("README.md");
    private static final Path OUT = Path.of("build/readme");
    private static final Pattern ANSWERED = Pattern.compile("(?:(int \\w+) = )?(x\\.\\w+\\(.*\\)); +// (-?\\d+)\\b.*");

    public static void main(String[] args) throws Exception {
        String page = Files.readString(README);
        runExamples(blocks(page, "java"));
        namedTests(blocks(page, "sh"), page);
        Due.finish();
    }

    private static String blocks(String page, String language) {
        StringBuilder all = new StringBuilder();
        Matcher m = Pattern.compile("```" + language + "\n(.*?)```", Pattern.DOTALL).matcher(page);
        while (m.find()) {
            all.append(m.group(1));
        }
        return all.toString();
    }

    /** Each line with an answer behind it becomes one that tells it; all others stand as they are. */
    private static void runExamples(String java) throws Exception {
        StringBuilder program = new StringBuilder("public final class ReadmeExamples {\n");
        program.append("public static void run(java.util.List<Integer> told) {\n");
        List<String> calls = new ArrayList<>();
        List<Integer> due = new ArrayList<>();
        for (String line : java.split("\n")) {
            Matcher m = ANSWERED.matcher(line);
            if (!m.matches()) {
                Due.due("an answer behind '" + line + "'", line.contains("//") ? 0 : 1, 1);
                program.append(line).append('\n');
                continue;
            }
            String name = m.group(1) == null ? "int answer" + calls.size() : m.group(1);
            program.append(name).append(" = ").append(m.group(2)).append(";\n");
            program.append("told.add(").append(name.substring(4)).append(");\n");
            calls.add(m.group(2));
            due.add(Integer.parseInt(m.group(3)));
        }
        program.append("}\n}\n");
        List<Integer> told = compileAndRun(program.toString());
        Due.due("README's lines with an answer", told.size(), calls.size());
        for (int i = 0; i < told.size() && i < due.size(); i++) {
            Due.due("README: " + calls.get(i), told.get(i), due.get(i));
        }
        Due.due("README has examples", calls.size() > 40 ? 1 : 0, 1);
    }

    private static List<Integer> compileAndRun(String program) throws Exception {
        Files.createDirectories(OUT);
        Path file = OUT.resolve("ReadmeExamples.java");
        Files.writeString(file, program);
        JavaCompiler javac = ToolProvider.getSystemJavaCompiler();
        int failed = javac.run(null, null, null, "-d", OUT.toString(), "-cp", System.getProperty("java.class.path"),
            file.toString());
        Due.due("README's lines compile", failed, 0);
        List<Integer> told = new ArrayList<>();
        if (failed == 0) {
            URL[] place = {OUT.toUri().toURL()};
            try (URLClassLoader loader = new URLClassLoader(place)) {
                loader.loadClass("ReadmeExamples").getMethod("run", List.class).invoke(null, told);
            }
        }
        return told;
    }

    private static void namedTests(String commands, String page) throws IOException {
        Matcher m = Pattern.compile("java -cp build/own (\\w+)").matcher(commands);
        while (m.find()) {
            Due.due(m.group(1) + " is a test", isTest(m.group(1)), 1);
        }
        m = Pattern.compile("`(\\w+Test)`").matcher(page);
        while (m.find()) {
            Due.due(m.group(1) + " is a test", isTest(m.group(1)), 1);
        }
        try (var files = Files.list(Path.of("src/test/java"))) {
            for (Path file : files.toList()) {
                String name = file.getFileName().toString().replace(".java", "");
                boolean isNamed = page.contains("`" + name + "`") || name.startsWith("EdgesOf");
                Due.due(name + " is named in README.md", isNamed || !name.endsWith("Test") ? 1 : 0, 1);
            }
        }
        Due.due(".ci/run may be run", Files.isExecutable(Path.of(".ci/run")) && commands.contains(".ci/run") ? 1 : 0, 1);
    }

    private static int isTest(String name) throws IOException {
        Path file = Path.of("src/test/java", name + ".java");
        return Files.exists(file) && Files.readString(file).contains("void main(String[] args)") ? 1 : 0;
    }
}
