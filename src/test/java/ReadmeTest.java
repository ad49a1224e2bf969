import java.io.IOException;
import java.lang.reflect.Method;
import java.lang.reflect.Modifier;
import java.nio.charset.StandardCharsets;
import java.nio.file.Files;
import java.nio.file.Path;
import java.util.ArrayList;
import java.util.List;
import java.util.regex.Matcher;
import java.util.regex.Pattern;
import java.util.stream.Stream;

/** What README.md says works as it is written there: its program, its commands and what it prints. */
public final class ReadmeTest {
    private static final Pattern BLOCK = Pattern.compile("^```(\\w+)\n(.*?)^```$", Pattern.MULTILINE | Pattern.DOTALL);
    private static final String ALL_TESTS = ".ci/run\n";

    public static void main(String[] args) throws Exception {
        String readme = Files.readString(Path.of("README.md"));
        Path room = Files.createTempDirectory("readme");
        try {
            Path project = copyOfProject(room);
            Files.writeString(project.resolve("Yours.java"), blocks(readme, "java").get(0));
            List<String> commands = blocks(readme, "sh");
            Check.due("README.md runs all tests", true, () -> commands.remove(ALL_TESTS));
            Check.due("which can be run", true, () -> Files.isExecutable(Path.of(ALL_TESTS.strip())));
            Check.due("the other commands", 3, commands::size);
            Check.due("what the program prints", blocks(readme, "text").get(0), () -> run(project, commands.get(0)));
            for (String command : commands.subList(1, commands.size())) {
                Check.due(command, "all answers are as due\n", () -> run(project, command));
            }
        } finally {
            remove(room);
        }
        for (Method method : CypherRing.class.getDeclaredMethods()) {
            if (Modifier.isPublic(method.getModifiers())) {
                String name = "`" + method.getName() + "`";
                Check.due("README.md names " + name, true, () -> readme.contains(name));
            }
        }
        Check.end();
    }

    private static List<String> blocks(String readme, String language) {
        List<String> blocks = new ArrayList<>();
        Matcher block = BLOCK.matcher(readme);
        while (block.find()) {
            if (block.group(1).equals(language)) {
                blocks.add(block.group(2));
            }
        }
        return blocks;
    }

    /** The commands write beside the sources, so they run in a copy; ../shared is seen from there, too. */
    private static Path copyOfProject(Path room) throws IOException {
        Path project = room.resolve("project");
        try (Stream<Path> sources = Files.walk(Path.of("src"))) {
            for (Path source : (Iterable<Path>) sources::iterator) {
                Path copy = project.resolve(source.toString());
                Files.createDirectories(Files.isDirectory(source) ? copy : copy.getParent());
                if (Files.isRegularFile(source)) {
                    Files.copy(source, copy);
                }
            }
        }
        Files.createSymbolicLink(room.resolve("shared"), Path.of("..", "shared").toRealPath());
        return project;
    }

    private static String run(Path where, String command) {
        try {
            Process process = new ProcessBuilder("sh", "-c", command).directory(where.toFile())
                    .redirectErrorStream(true).start();
            String printed = new String(process.getInputStream().readAllBytes(), StandardCharsets.UTF_8);
            int code = process.waitFor();
            return code == 0 ? printed : printed + "exit code " + code;
        } catch (IOException | InterruptedException e) {
            return "it can't be run: " + e;
        }
    }

    private static void remove(Path room) throws IOException {
        List<Path> all;
        try (Stream<Path> found = Files.walk(room)) {
            all = new ArrayList<>(found.toList());
        }
        for (int i = all.size() - 1; i >= 0; i--) {
            Files.delete(all.get(i));
        }
    }
}
