import java.io.ByteArrayOutputStream;
import java.io.IOException;
import java.io.PrintStream;
import java.lang.reflect.Method;
import java.lang.reflect.Modifier;
import java.net.URL;
import java.net.URLClassLoader;
import java.nio.charset.StandardCharsets;
import java.nio.file.Files;
import java.nio.file.Path;
import java.util.Arrays;
import java.util.List;
import javax.tools.ToolProvider;

/** README's example uses each call of the face, can be run as it stands there, and prints what README says. */
public final class ReadmeTest {
    private static final Check CHECK = new Check("README");

    public static void main(String[] args) throws Exception {
        List<String> readme = Files.readAllLines(Path.of("README.md"), StandardCharsets.UTF_8);
        String example = block(readme, "java");
        eachCallIsUsed(example);
        eachCallIsTold(readme);
        printsWhatStandsThere(example, block(readme, "text"));
        CHECK.end();
    }

    /** The lines of the one block of a kind, each with its end. */
    private static String block(List<String> readme, String kind) {
        int open = readme.indexOf("```" + kind);
        CHECK.holds("The public face", "README has one block of " + kind);
        CHECK.due("it has one", open >= 0 && readme.lastIndexOf("```" + kind) == open ? 1 : 0, 1);
        StringBuilder lines = new StringBuilder();
        for (int i = open + 1; i < readme.size() && !readme.get(i).equals("```"); i++) {
            lines.append(readme.get(i)).append('\n');
        }
        return lines.toString();
    }

    private static void eachCallIsUsed(String example) {
        CHECK.holds("The public face", "README's example uses all of it");
        CHECK.due("new ReportWriter(..)", example.contains("new ReportWriter(") ? 1 : 0, 1);
        CHECK.due("NONE", example.contains("ReportWriter.NONE") ? 1 : 0, 1);
        for (Method call : ReportWriter.class.getDeclaredMethods()) {
            if (Modifier.isPublic(call.getModifiers())) {
                CHECK.due("x." + call.getName() + "(..)", example.contains("x." + call.getName() + "(") ? 1 : 0, 1);
            }
        }
    }

    private static void eachCallIsTold(List<String> readme) {
        CHECK.holds("The public face", "README's table tells each call with its arguments");
        String[] calls = {"new ReportWriter(page, first, foot)", "group(kind, control)", "line(group, n, relative)",
            "sum(group, of, reset)", "control(value)", "set(level, v)", "initiate()", "generate(detail, v)", "terminate()",
            "at(line, column)", "lines()", "total(sum)", "counter(what)", "suppress(group)", "indicate(group)"};
        for (String call : calls) {
            long rows = readme.stream().filter(line -> line.startsWith("| `" + call + "` |")).count();
            CHECK.due("rows of " + call, rows, 1);
        }
    }

    private static void printsWhatStandsThere(String example, String due) throws Exception {
        CHECK.holds("all lines told", "README's example, as it stands there");
        Path dir = Files.createTempDirectory("readme");
        try {
            Path source = Files.writeString(dir.resolve("Example.java"), example);
            int refused = ToolProvider.getSystemJavaCompiler().run(null, null, null, "--release", "17",
                    "-cp", System.getProperty("java.class.path"), "-d", dir.toString(), source.toString());
            CHECK.due("javac ends with", refused, 0);
            if (refused == 0) {
                compare(printedBy(dir), due);
            }
        } finally {
            remove(dir);
        }
    }

    private static String printedBy(Path dir) throws Exception {
        ByteArrayOutputStream bytes = new ByteArrayOutputStream();
        PrintStream before = System.out;
        try (URLClassLoader loader = new URLClassLoader(new URL[] {dir.toUri().toURL()})) {
            System.setOut(new PrintStream(bytes, true, StandardCharsets.UTF_8));
            loader.loadClass("Example").getMethod("main", String[].class).invoke(null, (Object) new String[0]);
        } finally {
            System.setOut(before);
        }
        return bytes.toString(StandardCharsets.UTF_8).replace("\r\n", "\n");
    }

    private static void compare(String printed, String due) {
        String[] got = printed.split("\n");
        String[] want = due.split("\n");
        for (int i = 0; i < Math.max(got.length, want.length); i++) {
            String one = i < got.length ? got[i] : "nothing";
            String other = i < want.length ? want[i] : "nothing";
            CHECK.due("row " + i + " is '" + one + "', README says '" + other + "':", one.equals(other) ? 1 : 0, 1);
        }
    }

    private static void remove(Path dir) throws IOException {
        for (String name : Arrays.asList("Example.java", "Example.class")) {
            Files.deleteIfExists(dir.resolve(name));
        }
        Files.deleteIfExists(dir);
    }
}
