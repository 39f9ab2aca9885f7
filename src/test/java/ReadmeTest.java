import java.io.ByteArrayOutputStream;
import java.io.IOException;
import java.io.PrintStream;
import java.net.URL;
import java.net.URLClassLoader;
import java.nio.file.Files;
import java.nio.file.Path;
import java.util.Set;
import java.util.TreeSet;
import javax.tools.ToolProvider;

/** The example of README.md compiles and prints what stands below it; each call is told there. */
public final class ReadmeTest {
    private static int wrong = 0;

    public static void main(String[] args) throws IOException, ReflectiveOperationException {
        String readme = Files.readString(Path.of("README.md"));
        String due = block(readme, "text");
        String printed = run(block(readme, "java"));
        if (!due.equals(printed)) {
            wrong("the example prints\n" + printed + "but due is\n" + due);
        }
        for (String call : calls()) {
            if (!readme.contains("`" + call + "(")) {
                wrong("nothing tells of " + call);
            }
        }
        System.out.println(wrong + " things not as due");
        if (wrong != 0) {
            System.exit(1);
        }
    }

    private static void wrong(String line) {
        wrong++;
        System.out.println(line);
    }

    /** The first block of the readme in this language. */
    private static String block(String readme, String language) {
        String begin = "```" + language + "\n";
        int from = readme.indexOf(begin) + begin.length();
        return readme.substring(from, readme.indexOf("```", from));
    }

    private static Set<String> calls() {
        Set<String> names = new TreeSet<>();
        for (var method : WeaveDesk.class.getMethods()) {
            if (method.getDeclaringClass() == WeaveDesk.class) {
                names.add(method.getName());
            }
        }
        return names;
    }

    private static String run(String example) throws IOException, ReflectiveOperationException {
        Path folder = Files.createTempDirectory("readme");
        Path source = folder.resolve("Example.java");
        Path made = folder.resolve("Example.class");
        try {
            Files.writeString(source, "public final class Example { public static void main(String[] args) {\n"
                    + example + "} }\n");
            int code = ToolProvider.getSystemJavaCompiler().run(null, null, null, "-proc:none",
                    "-cp", System.getProperty("java.class.path"), "-d", folder.toString(), source.toString());
            return code == 0 ? printed(folder.toUri().toURL()) : "nothing: it does not compile\n";
        } finally {
            Files.deleteIfExists(made);
            Files.deleteIfExists(source);
            Files.delete(folder);
        }
    }

    private static String printed(URL folder) throws IOException, ReflectiveOperationException {
        PrintStream before = System.out;
        ByteArrayOutputStream bytes = new ByteArrayOutputStream();
        try (URLClassLoader loader = new URLClassLoader(new URL[] {folder})) {
            System.setOut(new PrintStream(bytes, true));
            loader.loadClass("Example").getMethod("main", String[].class).invoke(null, (Object) new String[0]);
        } finally {
            System.setOut(before);
        }
        return bytes.toString().replace(System.lineSeparator(), "\n");
    }
}
