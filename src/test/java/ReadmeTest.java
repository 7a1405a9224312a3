import java.io.IOException;
import java.lang.ProcessBuilder.Redirect;
import java.lang.reflect.Method;
import java.lang.reflect.Modifier;
import java.nio.charset.StandardCharsets;
import java.nio.file.DirectoryStream;
import java.nio.file.Files;
import java.nio.file.Path;
import java.util.TreeSet;
import java.util.regex.Matcher;
import java.util.regex.Pattern;

/** What README.md says is true: its example prints what it tells, no call and no test is left out. */
public final class ReadmeTest {
    private static final Checks C = new Checks("ReadmeTest");
    private static final Path TESTS = Path.of("src/test/java");

    public static void main(String[] args) throws Exception {
        String readme = Files.readString(Path.of("README.md"));
        example(readme);
        calls(readme);
        tests(readme);
        C.end();
    }

    /** The text between a line that begins a piece of this sort and the line that ends it. */
    private static String piece(String readme, String sort) {
        Matcher m = Pattern.compile("```" + sort + "\n(.*?)```", Pattern.DOTALL).matcher(readme);
        return m.find() ? m.group(1) : "";
    }

    private static void example(String readme) throws Exception {
        Path folder = Files.createTempDirectory("readme");
        Path source = folder.resolve("Example.java");
        Files.writeString(source, piece(readme, "java"));
        String main = "src/main/java/DeflateBlocks.java";
        C.same("javac of the example", printedBy("javac", "-d", folder.toString(), main, source.toString()), "");
        C.same("the example", printedBy("java", "-cp", folder.toString(), "Example"), piece(readme, "text"));
        try (DirectoryStream<Path> made = Files.newDirectoryStream(folder)) {
            for (Path file : made) {
                Files.delete(file);
            }
        }
        Files.delete(folder);
    }

    private static String printedBy(String... command) throws Exception {
        Process process = new ProcessBuilder(command).redirectError(Redirect.INHERIT).start();
        String printed = new String(process.getInputStream().readAllBytes(), StandardCharsets.ISO_8859_1);
        C.due(command[0] + "'s exit code", process.waitFor(), 0);
        return printed;
    }

    /** What the first column of the tables has in it, as far as it is of this form. */
    private static TreeSet<String> firstColumn(String readme, String form) {
        TreeSet<String> names = new TreeSet<>();
        Matcher m = Pattern.compile("^\\| `(" + form + ")` \\|", Pattern.MULTILINE).matcher(readme);
        while (m.find()) {
            names.add(m.group(1));
        }
        return names;
    }

    private static void calls(String readme) {
        TreeSet<String> want = new TreeSet<>();
        for (Method m : DeflateBlocks.class.getDeclaredMethods()) {
            if (Modifier.isPublic(m.getModifiers())) {
                want.add(m.getName() + "/" + m.getParameterCount());
            }
        }
        TreeSet<String> got = new TreeSet<>();
        for (String call : firstColumn(readme, "\\w+\\(.*?\\)")) {
            int begin = call.indexOf('(');
            String within = call.substring(begin + 1, call.length() - 1);
            got.add(call.substring(0, begin) + "/" + (within.isEmpty() ? 0 : within.split(",").length));
        }
        C.same("calls", got.toString(), want.toString());
    }

    private static void tests(String readme) throws IOException {
        TreeSet<String> want = new TreeSet<>();
        try (DirectoryStream<Path> files = Files.newDirectoryStream(TESTS, "*.java")) {
            for (Path file : files) {
                String name = file.getFileName().toString().replace(".java", "");
                C.holds(name + " is named", readme.contains("`" + name + "`"));
                if (name.endsWith("Test")) {
                    want.add(name);
                }
            }
        }
        C.same("tests", firstColumn(readme, "\\w+Test").toString(), want.toString());
    }
}
