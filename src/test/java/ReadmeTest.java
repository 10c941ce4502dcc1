import java.io.ByteArrayOutputStream;
import java.io.IOException;
import java.nio.charset.StandardCharsets;
import java.nio.file.Files;
import java.nio.file.Path;
import java.util.Comparator;
import java.util.List;
import java.util.stream.Collectors;
import java.util.stream.Stream;
import javax.tools.ToolProvider;

/** The program that README.md shows compiles, and prints what README.md says; run at the root. */
public final class ReadmeTest {
    private static final Due due = new Due("ReadmeTest");

    public static void main(String[] args) throws IOException, InterruptedException {
        String readme = Files.readString(Path.of("README.md"));
        Path dir = Files.createTempDirectory("readme");
        try {
            Path source = dir.resolve("Example.java");
            Files.writeString(source, block(readme, "java"));
            int failed = ToolProvider.getSystemJavaCompiler().run(null, null, null, "-Xlint:all", "-d",
                    dir.toString(), "src/main/java/SkyWatchers.java", source.toString());
            due.is("compiling the program of README.md", failed, 0);
            if (failed == 0) {
                compare(block(readme, "text").lines().toList(), run(dir));
            }
        } finally {
            remove(dir);
        }
        due.end();
    }

    /** What stands between the marks of the only block that is said to be of a language. */
    private static String block(String readme, String language) {
        String[] parts = ("\n" + readme).split("\n```" + language + "\n", -1);
        due.is("blocks of " + language, parts.length - 1, 1);
        return parts.length < 2 ? "" : parts[1].split("(?m)^```$", 2)[0];
    }

    private static List<String> run(Path dir) throws IOException, InterruptedException {
        String java = Path.of(System.getProperty("java.home"), "bin", "java").toString();
        Process process = new ProcessBuilder(java, "-cp", dir.toString(), "Example").start();
        ByteArrayOutputStream said = new ByteArrayOutputStream();
        process.getInputStream().transferTo(said);
        due.is("how the program ends", process.waitFor(), 0);
        return said.toString(StandardCharsets.UTF_8).lines().collect(Collectors.toList());
    }

    private static void compare(List<String> want, List<String> got) {
        due.is("lines that it prints", got.size(), want.size());
        for (int i = 0; i < Math.min(want.size(), got.size()); i++) {
            due.is("line \"" + got.get(i) + "\", as \"" + want.get(i) + "\" in README.md",
                    got.get(i).equals(want.get(i)) ? 1 : 0, 1);
        }
    }

    private static void remove(Path dir) throws IOException {
        try (Stream<Path> inside = Files.walk(dir)) {
            for (Path path : inside.sorted(Comparator.reverseOrder()).toList()) {
                Files.delete(path);
            }
        }
    }
}
