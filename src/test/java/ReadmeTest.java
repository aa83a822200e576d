import java.io.IOException;
import java.nio.charset.StandardCharsets;
import java.nio.file.Files;
import java.nio.file.Path;
import java.util.ArrayList;
import java.util.Comparator;
import java.util.List;
import java.util.stream.Stream;

/** Follows README.md word for word in a copy of the sources: saves its program, runs its commands, compares the output. */
public final class ReadmeTest {
    private static final String PROGRAM = "Night.java";
    /** Runs this very test, so it is not run from here. */
    private static final String ALL_TESTS = ".ci/run\n";

    public static void main(String[] args) throws IOException, InterruptedException {
        String readme = Files.readString(Path.of("README.md"));
        Path copy = Files.createTempDirectory("readme");
        try {
            copyTree(Path.of("src"), copy.resolve("src"));
            followCommands(readme, copy);
        } finally {
            removeTree(copy);
        }
        allTestsAreListed(readme);
        Check.end();
    }

    private static void followCommands(String readme, Path copy) throws IOException, InterruptedException {
        List<String> programs = blocks(readme, "java");
        List<String> outputs = blocks(readme, "text");
        List<String> commands = blocks(readme, "sh");
        Check.same("programs", programs.size(), 1);
        Check.same("outputs", outputs.size(), 1);
        Check.same("blocks of commands", commands.size(), 3);
        if (programs.size() != 1 || outputs.size() != 1 || commands.size() != 3) {
            return;
        }
        Check.same("README.md names " + PROGRAM, readme.contains("`" + PROGRAM + "`") ? 1 : 0, 1);
        Files.writeString(copy.resolve(PROGRAM), programs.get(0));
        sameText("the program", run(commands.get(0), copy), outputs.get(0));
        sameText("the command for all tests", commands.get(1), ALL_TESTS);
        Check.same(".ci/run can be run", Files.isExecutable(Path.of(".ci/run")) ? 1 : 0, 1);
        sameText("one test alone", run(commands.get(2), copy), "");
    }

    private static void allTestsAreListed(String readme) throws IOException {
        try (Stream<Path> files = Files.list(Path.of("src/test/java"))) {
            for (Path file : (Iterable<Path>) files::iterator) {
                String name = file.getFileName().toString().replace(".java", "");
                if (name.endsWith("Test")) {
                    Check.same(name + " is listed", readme.contains("| `" + name + "` |") ? 1 : 0, 1);
                }
            }
        }
    }

    /** What stands between a line ``` with this kind behind it and the next line ```. */
    private static List<String> blocks(String readme, String kind) {
        List<String> found = new ArrayList<>();
        StringBuilder block = null;
        for (String line : readme.split("\n", -1)) {
            if (block == null && line.equals("```" + kind)) {
                block = new StringBuilder();
            } else if (block != null && line.equals("```")) {
                found.add(block.toString());
                block = null;
            } else if (block != null) {
                block.append(line).append('\n');
            }
        }
        return found;
    }

    /** What the commands print; errors are passed on, since the machine may put notices of its own among them. */
    private static String run(String commands, Path directory) throws IOException, InterruptedException {
        ProcessBuilder builder = new ProcessBuilder("sh", "-e", "-c", commands);
        builder.directory(directory.toFile()).redirectError(ProcessBuilder.Redirect.INHERIT);
        Process process = builder.start();
        String printed = new String(process.getInputStream().readAllBytes(), StandardCharsets.UTF_8);
        Check.same("the exit code of " + commands, process.waitFor(), 0);
        return printed;
    }

    private static void sameText(String what, String got, String due) {
        if (!got.equals(due)) {
            Check.wrong(what, got, due);
        }
    }

    private static void copyTree(Path from, Path to) throws IOException {
        try (Stream<Path> files = Files.walk(from)) {
            for (Path file : (Iterable<Path>) files::iterator) {
                Files.copy(file, to.resolve(from.relativize(file).toString()));
            }
        }
    }

    private static void removeTree(Path root) throws IOException {
        try (Stream<Path> files = Files.walk(root).sorted(Comparator.reverseOrder())) {
            for (Path file : (Iterable<Path>) files::iterator) {
                Files.delete(file);
            }
        }
    }
}
