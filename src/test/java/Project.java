import java.io.IOException;
import java.nio.file.Files;
import java.nio.file.Path;

/** The files of the project, wherever the tests are run from. */
final class Project {
    static String program() throws IOException {
        return text("src", "main", "java", "HostKeyring.java");
    }

    static String readme() throws IOException {
        return text("README.md");
    }

    static String test(String name) throws IOException {
        return text("src", "test", "java", name + ".java");
    }

    private static String text(String... path) throws IOException {
        return Files.readString(Path.of(System.getProperty("project.root", "."), path));
    }

    private Project() {
    }
}
