import java.io.File;
import java.lang.reflect.Method;
import java.lang.reflect.Modifier;
import java.nio.file.Files;
import java.nio.file.Path;

/** README.md says how the class is used: its example prints what stands there, and no call and no test is left out. */
public final class ReadmeTest {
    private static final Check check = new Check();

    public static void main(String[] args) throws Exception {
        String page = Files.readString(Path.of("README.md"));
        everyCallIsNamed(page);
        everyExceptionIsNamed(page);
        everyTestIsNamed(page);
        check.same("the example prints", printed(block(page, "java")), block(page, "text").strip());
        check.end("ReadmeTest");
    }

    private static void everyCallIsNamed(String page) {
        for (Method m : FaultRips.class.getDeclaredMethods()) {
            if (Modifier.isPublic(m.getModifiers())) {
                check.yes("README.md tells of " + m.getName(), page.contains("`" + m.getName() + "("));
            }
        }
        check.yes("README.md tells of the constructor", page.contains("`new FaultRips(width, length, step)`"));
    }

    private static void everyExceptionIsNamed(String page) {
        for (Method m : FaultRips.class.getDeclaredMethods()) {
            for (Class<?> thrown : m.getExceptionTypes()) {
                check.yes("README.md tells of " + thrown.getSimpleName(), page.contains("| `" + thrown.getSimpleName() + "` |"));
            }
        }
    }

    private static void everyTestIsNamed(String page) {
        File[] files = new File("src/test/java").listFiles((folder, name) -> name.endsWith("Test.java"));
        check.yes("there are tests", files != null && files.length > 0);
        for (File file : files == null ? new File[0] : files) {
            String name = file.getName().replace(".java", "");
            check.yes("README.md tells of " + name, page.contains("| `" + name + "` |"));
        }
    }

    private static String block(String page, String language) {
        String open = "```" + language + "\n";
        int begin = page.indexOf(open);
        int end = begin < 0 ? -1 : page.indexOf("```", begin + open.length());
        check.yes("README.md has a block of " + language, end >= 0);
        return end < 0 ? "" : page.substring(begin + open.length(), end);
    }

    private static String printed(String example) throws Exception {
        Path folder = Files.createTempDirectory("readme");
        Path source = folder.resolve("Example.java");
        Files.writeString(source, "public class Example { public static void main(String[] args) {\n" + example + "}}\n");
        String classes = System.getProperty("java.class.path");
        check.same("the compiler says", said("javac", "-cp", classes, "-d", folder.toString(), source.toString()), "");
        String text = said("java", "-cp", classes + File.pathSeparator + folder, "Example");
        for (String name : new String[] {"Example.java", "Example.class"}) {
            Files.deleteIfExists(folder.resolve(name));
        }
        Files.deleteIfExists(folder);
        return text;
    }

    /** What a command prints; its errors go to the test's own, since a machine may have words of its own there. */
    private static String said(String... command) throws Exception {
        Process process = new ProcessBuilder(command).redirectError(ProcessBuilder.Redirect.INHERIT).start();
        String text = new String(process.getInputStream().readAllBytes()).strip();
        int exit = process.waitFor();
        return exit == 0 ? text : text + " and ends with exit code " + exit;
    }
}
