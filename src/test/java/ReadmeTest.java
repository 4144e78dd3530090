import java.io.File;
import java.io.IOException;
import java.net.URL;
import java.net.URLClassLoader;
import java.nio.file.Files;
import java.nio.file.Path;
import java.util.Comparator;
import java.util.List;
import java.util.regex.Matcher;
import java.util.regex.Pattern;
import java.util.stream.Stream;
import javax.tools.ToolProvider;

/** Makes the calls that README.md shows, one class of all its blocks, and holds the answers against those told there. */
final class ReadmeTest {
    private static final Pattern BLOCK = Pattern.compile("```java\n(.*?)```", Pattern.DOTALL);
    private static final Pattern CALL = Pattern.compile("(.*);\\s*// (= |throws )([^:]*)(:.*)?");
    private static final String NAME = "ReadmeCalls";

    private ReadmeTest() {
    }

    public static void main(String[] args) throws IOException, ReflectiveOperationException {
        Path folder = Files.createTempDirectory("readme");
        try {
            Path source = folder.resolve(NAME + ".java");
            Files.writeString(source, program(Files.readString(Path.of(args[0], "README.md"))));
            String path = System.getProperty("java.class.path");
            int failed = ToolProvider.getSystemJavaCompiler().run(null, null, null, "-proc:none", "-cp", path, "-d",
                    folder.toString(), source.toString());
            Check.due("README.md compiles", 0, failed);
            if (failed == 0) {
                run(folder, Path.of(path));
            }
        } finally {
            remove(folder);
        }
        Check.end();
    }

    /** By one loader for all classes, since those of the tests are closed to those of another one. */
    private static void run(Path folder, Path tests) throws IOException, ReflectiveOperationException {
        URL[] all = {folder.toUri().toURL(), tests.toUri().toURL()};
        try (URLClassLoader loader = new URLClassLoader(all, ClassLoader.getPlatformClassLoader())) {
            Object wrong = loader.loadClass(NAME).getMethod("wrong").invoke(null);
            Check.due("README.md tells it right", "", wrong);
        }
    }

    private static void remove(Path folder) throws IOException {
        try (Stream<Path> files = Files.walk(folder)) {
            List<File> all = files.sorted(Comparator.reverseOrder()).map(Path::toFile).toList();
            all.forEach(File::delete);
        }
    }

    private static String program(String readme) {
        StringBuilder methods = new StringBuilder();
        StringBuilder calls = new StringBuilder("String wrong = \"\";\n");
        int checks = 0;
        for (Matcher found = BLOCK.matcher(readme); found.find();) {
            boolean method = found.group(1).startsWith("static ");
            for (String line : found.group(1).split("\n")) {
                checks += CALL.matcher(line).matches() ? 1 : 0;
                (method ? methods : calls).append(checked(line)).append('\n');
            }
        }
        Check.due("many answers are told", true, checks > 40);
        return "public class " + NAME + " {\n" + methods + "public static String wrong() {\n" + calls
                + "return wrong;\n}\n}\n";
    }

    private static String checked(String line) {
        Matcher call = CALL.matcher(line);
        if (!call.matches()) {
            return line;
        }
        String due = call.group(2).equals("throws ") ? "class java.lang." + call.group(3) : call.group(3);
        return "{ String got = String.valueOf(Twin.answer(bureau, x -> " + call.group(1) + ")); if (!got.equals(\""
                + due.trim() + "\")) { wrong += \"" + call.group(1).replace("\"", "\\\"") + ": \" + got + \"; \"; } }";
    }
}
