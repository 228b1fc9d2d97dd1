import java.io.IOException;
import java.lang.reflect.Method;
import java.lang.reflect.Modifier;
import java.nio.file.Files;
import java.nio.file.Path;
import java.util.ArrayList;
import java.util.Comparator;
import java.util.List;
import java.util.stream.Stream;

/** What README.md says is so when it is done as written; run in the project's folder. */
public final class ReadmeTest {
    private static final Path SOURCES = Path.of("src");

    public static void main(String[] args) throws IOException, InterruptedException {
        String readme = Files.readString(Path.of("README.md"));
        Path room = Files.createTempDirectory("readme");
        try {
            copySources(room);
            Files.writeString(room.resolve("Late.java"), block(readme, "java", 0));
            does("the program", room, block(readme, "sh", 0), block(readme, "text", 0));
            does("one test alone", room, block(readme, "sh", 2), "");
        } finally {
            delete(room);
        }
        testsOfAll(block(readme, "sh", 1).strip());
        tellsEveryCall(readme);
        tellsEveryTest(readme);
        Check.end();
    }

    /** The text of block number n of a kind, counted from 0. */
    private static String block(String readme, String kind, int n) {
        String[] parts = readme.split("(?m)^```");
        int seen = 0;
        // Parts at odd places stand inside fences.
        for (int at = 1; at < parts.length; at += 2) {
            if (parts[at].startsWith(kind + "\n") && seen++ == n) {
                return parts[at].substring(kind.length() + 1);
            }
        }
        yes("README has block " + n + " of " + kind, false);
        return "";
    }

    private static void copySources(Path room) throws IOException {
        for (Path from : walk(SOURCES)) {
            if (Files.isDirectory(from)) {
                Files.createDirectories(room.resolve(from));
            } else {
                Files.copy(from, room.resolve(from));
            }
        }
    }

    private static void does(String what, Path room, String commands, String prints)
            throws IOException, InterruptedException {
        Process process = new ProcessBuilder("bash", "-e", "-c", commands)
            .directory(room.toFile()).redirectError(ProcessBuilder.Redirect.INHERIT).start();
        String printed = new String(process.getInputStream().readAllBytes());
        Check.is(what + ": exit code", process.waitFor(), 0);
        yes(what + ": printed\n" + printed, printed.equals(prints));
    }

    private static void testsOfAll(String command) {
        yes(command + " can be run", Files.isExecutable(Path.of(command)));
    }

    private static void tellsEveryCall(String readme) {
        for (Method method : SlotCore.class.getDeclaredMethods()) {
            if (Modifier.isPublic(method.getModifiers())) {
                yes("README tells " + method.getName(), readme.contains("| `" + method.getName() + "("));
            }
        }
    }

    private static void tellsEveryTest(String readme) throws IOException {
        List<String> names = new ArrayList<>();
        for (Path file : walk(SOURCES.resolve("test"))) {
            if (Files.isRegularFile(file)) {
                names.add(file.getFileName().toString().replace(".java", ""));
            }
        }
        yes("tests are there", names.contains("ReadmeTest"));
        for (String name : names) {
            yes("README tells " + name, readme.contains("`" + name + "`"));
        }
    }

    private static List<Path> walk(Path root) throws IOException {
        try (Stream<Path> all = Files.walk(root)) {
            return all.sorted().toList();
        }
    }

    private static void delete(Path room) throws IOException {
        try (Stream<Path> all = Files.walk(room)) {
            for (Path path : all.sorted(Comparator.reverseOrder()).toList()) {
                Files.delete(path);
            }
        }
    }

    private static void yes(String what, boolean holds) {
        Check.is(what, holds ? 1 : 0, 1);
    }
}
