import java.io.IOException;
import java.io.InputStream;
import java.nio.charset.StandardCharsets;
import java.nio.file.Files;
import java.nio.file.Path;
import java.util.ArrayList;
import java.util.Comparator;
import java.util.List;
import java.util.Set;
import java.util.TreeSet;
import java.util.concurrent.TimeUnit;
import java.util.regex.Matcher;
import java.util.regex.Pattern;
import java.util.stream.Stream;

/** Follows README.md as it stands, in a copy of the project. */
public final class ReadmeTest {
    private static final Check check = new Check("ReadmeTest");
    private static final Pattern BLOCK = Pattern.compile("(?m)^```(\\w+)\\n(.*?)^```$", Pattern.DOTALL);
    private static final Path SOURCES = Path.of("src");
    private static final Path TESTS = SOURCES.resolve(Path.of("test", "java"));
    private static final Path SHARED = Path.of("..", "shared", "tests");

    private record Block(String kind, String text) { }

    public static void main(String[] args) throws IOException, InterruptedException {
        String readme = Files.readString(Path.of("README.md"));
        List<Block> blocks = new ArrayList<>();
        Matcher matcher = BLOCK.matcher(readme);
        while (matcher.find()) {
            blocks.add(new Block(matcher.group(1), matcher.group(2)));
        }
        namesTheTests(readme);
        Path copy = Files.createTempDirectory("readme");
        try {
            follow(blocks, copy);
        } finally {
            remove(copy);
        }
        check.finish();
    }

    private static void namesTheTests(String readme) throws IOException {
        Set<String> told = new TreeSet<>();
        Matcher row = Pattern.compile("(?m)^\\| `(\\w+Test)` \\|").matcher(readme);
        while (row.find()) {
            told.add(row.group(1));
        }
        Set<String> due = new TreeSet<>();
        try (Stream<Path> files = Files.list(TESTS)) {
            files.map(file -> file.getFileName().toString()).filter(name -> name.endsWith("Test.java"))
                .forEach(name -> due.add(name.replace(".java", "")));
        }
        check.same("the tests that README.md names", told, due);
    }

    private static void follow(List<Block> blocks, Path copy) throws IOException, InterruptedException {
        Path project = copy.resolve("main");
        copyTree(SOURCES, project.resolve("src"));
        copyTree(SHARED, copy.resolve(Path.of("shared", "tests")));
        String printed = "";
        int commands = 0;
        for (Block block : blocks) {
            switch (block.kind()) {
                case "java" -> Files.writeString(project.resolve("Example.java"), block.text());
                case "text" -> check.same("what the example prints", printed, block.text());
                case "sh" -> {
                    commands++;
                    // The script runs this very test, so it is not run in it once more.
                    if (block.text().equals(".ci/run\n")) {
                        check.same(".ci/run is a script to run", Files.isExecutable(Path.of(".ci", "run")), true);
                    } else {
                        printed = printedBy(block.text(), project);
                    }
                }
                default -> check.same("a block in README.md", block.kind(), "java, sh or text");
            }
        }
        check.same("blocks of commands", commands, 4);
    }

    private static String printedBy(String commands, Path project) throws IOException, InterruptedException {
        Process shell = new ProcessBuilder("sh", "-e", "-c", commands)
            .directory(project.toFile()).redirectErrorStream(true).start();
        String printed;
        try (InputStream stream = shell.getInputStream()) {
            printed = new String(stream.readAllBytes(), StandardCharsets.UTF_8);
        }
        boolean isOver = shell.waitFor(5, TimeUnit.MINUTES);
        check.same("exit code of " + commands + printed, isOver ? shell.exitValue() : -1, 0);
        return printed;
    }

    private static void copyTree(Path from, Path to) throws IOException {
        try (Stream<Path> files = Files.walk(from)) {
            for (Path file : (Iterable<Path>) files::iterator) {
                Path target = to.resolve(from.relativize(file).toString());
                if (Files.isDirectory(file)) {
                    Files.createDirectories(target);
                } else {
                    Files.write(target, Files.readAllBytes(file));
                }
            }
        }
    }

    private static void remove(Path tree) throws IOException {
        List<Path> files;
        try (Stream<Path> walk = Files.walk(tree)) {
            files = walk.sorted(Comparator.reverseOrder()).toList();
        }
        for (Path file : files) {
            Files.delete(file);
        }
    }
}
