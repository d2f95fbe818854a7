import java.io.File;
import java.io.IOException;
import java.lang.reflect.Method;
import java.lang.reflect.Modifier;
import java.nio.file.Files;
import java.nio.file.Path;

/** README.md holds: its example compiles and prints what it says, and it names every call and every test. */
public final class ReadmeTest {
    public static void main(String[] args) throws Exception {
        Check check = new Check();
        String page = Files.readString(Path.of("README.md"));
        check.same("what the example prints", block(page, "text"), printed(block(page, "java")));
        namesEveryCall(check, page);
        namesEveryTest(check, page);
        check.end("ReadmeTest");
    }

    /** The first block of that kind. */
    private static String block(String page, String kind) {
        String fence = "```" + kind + "\n";
        int from = page.indexOf(fence);
        int to = from < 0 ? -1 : page.indexOf("```\n", from + fence.length());
        return to < 0 ? "no block of " + kind : page.substring(from + fence.length(), to);
    }

    private static String printed(String source) throws Exception {
        Path folder = Files.createTempDirectory("readme");
        try {
            Path file = folder.resolve("Town.java");
            Files.writeString(file, source);
            String classes = System.getProperty("java.class.path");
            return said("javac", "-cp", classes, "-d", folder.toString(), file.toString())
                    + said("java", "-cp", classes + File.pathSeparator + folder, "Town");
        } finally {
            remove(folder);
        }
    }

    /** What a program writes; its complaints go where those of the test go, since a machine may add its own. */
    private static String said(String... words) throws Exception {
        Process process = new ProcessBuilder(words).redirectError(ProcessBuilder.Redirect.INHERIT).start();
        process.getOutputStream().close();
        String said = new String(process.getInputStream().readAllBytes());
        process.waitFor();
        return said.replace(System.lineSeparator(), "\n");
    }

    private static void remove(Path folder) throws IOException {
        for (File file : folder.toFile().listFiles()) {
            Files.delete(file.toPath());
        }
        Files.delete(folder);
    }

    private static void namesEveryCall(Check check, String page) {
        for (Method method : WheelDocks.class.getDeclaredMethods()) {
            if (Modifier.isPublic(method.getModifiers())) {
                check.due("README has a row of " + method.getName(), true,
                        () -> page.contains("\n| `" + method.getName() + "("));
            }
        }
    }

    private static void namesEveryTest(Check check, String page) {
        for (String name : new File("src/test/java").list()) {
            String plain = name.replace(".java", "");
            check.due("README names " + plain, true, () -> page.contains("`" + plain + "`"));
        }
    }
}
