import java.io.IOException;
import java.net.URL;
import java.net.URLClassLoader;
import java.nio.file.Files;
import java.nio.file.Path;
import java.util.Comparator;
import java.util.List;
import java.util.regex.Matcher;
import java.util.regex.Pattern;
import java.util.stream.Stream;
import javax.tools.JavaCompiler;
import javax.tools.ToolProvider;

/** README.md: it names each call as the document does, and what its example says is so. */
final class ReadmeTest {
    private static final Pattern ANSWERED = Pattern.compile("(int \\w+ = )?(town\\..*); // (-?\\d+)(: .*)?");

    private ReadmeTest() {
    }

    static void all(Due due, String readme, String document) throws Exception {
        String page = Files.readString(Path.of(readme));
        calls(due, page, Files.readString(Path.of(document)));
        example(due, page);
    }

    private static void calls(Due due, String page, String document) {
        due.test("README.md names each call of the document's face");
        Matcher m = Pattern.compile("(?m)^    public (int|long) (\\w+\\([^)]*\\));").matcher(document);
        int named = 0;
        while (m.find()) {
            due.is("'" + m.group(2) + "' in README.md", page.contains("| `" + m.group(2) + "` |") ? 1 : 0, 1);
            named++;
        }
        due.is("calls", named, 39);
    }

    private static void example(Due due, String page) throws Exception {
        due.test("README.md's example answers as it says");
        Matcher block = Pattern.compile("(?s)```java\n(.*?)```").matcher(page);
        if (!block.find()) {
            due.wrong("no example in README.md");
            return;
        }
        Path folder = Files.createTempDirectory("readme");
        try {
            String wrong = answers(folder, program(due, block.group(1)));
            due.same("the example", wrong, "");
        } finally {
            remove(folder);
        }
    }

    /** The example as a program that tells each call that is answered otherwise than its comment says. */
    private static String program(Due due, String example) {
        StringBuilder code = new StringBuilder();
        int answered = 0;
        for (String line : example.split("\n")) {
            Matcher m = ANSWERED.matcher(line);
            if (!m.matches()) {
                code.append(line).append('\n');
                due.is("'" + line + "' makes a call without its answer", line.startsWith("town.") ? 1 : 0, 0);
                continue;
            }
            answered++;
            String result = "answer" + answered;
            code.append("int ").append(result).append(" = ").append(m.group(2)).append(";\n");
            if (m.group(1) != null) {
                code.append(m.group(1)).append(result).append(";\n");
            }
            code.append("if (").append(result).append(" != ").append(m.group(3)).append(") { wrong.append(\"")
                    .append(m.group(2)).append(" answered \").append(").append(result).append(").append(\"; \"); }\n");
        }
        due.is("the example has calls", answered > 0 ? 1 : 0, 1);
        return "public class Example { public static String run() { StringBuilder wrong = new StringBuilder();\n"
                + code + "return wrong.toString(); } }\n";
    }

    private static String answers(Path folder, String program) throws Exception {
        Path source = folder.resolve("Example.java");
        Files.writeString(source, program);
        JavaCompiler compiler = ToolProvider.getSystemJavaCompiler();
        String classes = System.getProperty("java.class.path");
        int ended = compiler.run(null, null, null, "-cp", classes, "-d", folder.toString(), source.toString());
        if (ended != 0) {
            return "it does not compile";
        }
        URL[] places = {folder.toUri().toURL()};
        try (URLClassLoader loader = new URLClassLoader(places, ReadmeTest.class.getClassLoader())) {
            return (String) loader.loadClass("Example").getMethod("run").invoke(null);
        }
    }

    private static void remove(Path folder) throws IOException {
        try (Stream<Path> all = Files.walk(folder)) {
            List<Path> deepestFirst = all.sorted(Comparator.reverseOrder()).toList();
            for (Path path : deepestFirst) {
                Files.delete(path);
            }
        }
    }
}
