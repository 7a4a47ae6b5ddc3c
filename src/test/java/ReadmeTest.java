import java.io.IOException;
import java.lang.reflect.Method;
import java.nio.charset.StandardCharsets;
import java.nio.file.Files;
import java.nio.file.Path;
import java.util.List;
import javax.tools.ToolProvider;

/** README.md tells of every call, and its example compiles and prints what it says. */
final class ReadmeTest {
    public static void main(String[] args) throws IOException, InterruptedException {
        Check check = new Check();
        String readme = Files.readString(Path.of("README.md"));
        for (Method method : StageMachine.class.getMethods()) {
            if (method.getDeclaringClass() == StageMachine.class) {
                String named = "| `" + method.getName() + "(";
                check.due("README.md has a line " + named, readme.contains(named), true);
            }
        }
        String due = block(readme, "text");
        String printed = printedBy(block(readme, "java"));
        check.due("the example prints what README.md says, not " + printed, printed.equals(due), true);
        check.due(".ci/run can be run", Files.isExecutable(Path.of(".ci/run")), true);
        check.finish();
    }

    private static String block(String readme, String language) {
        String fence = "```" + language + "\n";
        int from = readme.indexOf(fence) + fence.length();
        return readme.substring(from, readme.indexOf("```", from));
    }

    private static String printedBy(String source) throws IOException, InterruptedException {
        Path folder = Files.createTempDirectory("readme");
        Path file = folder.resolve("Example.java");
        try {
            Files.writeString(file, source);
            String classes = System.getProperty("java.class.path");
            int compiled = ToolProvider.getSystemJavaCompiler().run(null, null, null,
                    "-d", folder.toString(), "-cp", classes, file.toString());
            return compiled == 0 ? outputOf(classes + System.getProperty("path.separator") + folder) : "";
        } finally {
            Files.deleteIfExists(file);
            Files.deleteIfExists(folder.resolve("Example.class"));
            Files.delete(folder);
        }
    }

    private static String outputOf(String classes) throws IOException, InterruptedException {
        String java = Path.of(System.getProperty("java.home"), "bin", "java").toString();
        Process process = new ProcessBuilder(List.of(java, "-cp", classes, "Example"))
                .redirectErrorStream(true).start();
        String printed = new String(process.getInputStream().readAllBytes(), StandardCharsets.UTF_8);
        process.waitFor();
        return printed.replace("\r\n", "\n");
    }
}
