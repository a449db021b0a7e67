import java.io.IOException;
import java.lang.reflect.Method;
import java.lang.reflect.Modifier;
import java.nio.file.DirectoryStream;
import java.nio.file.Files;
import java.nio.file.Path;
import java.util.ArrayList;
import java.util.Comparator;
import java.util.List;
import java.util.regex.Matcher;
import java.util.regex.Pattern;
import java.util.stream.Stream;

/**
 * What README.md shows of the class's use compiles and answers as README.md says: its programs and commands are
 * run as they stand, in a directory of their own, and its single calls with the answers that stand behind them.
 */
public final class ReadmeTests {
    private static final Path README = Path.of("README.md");
    private static final Path TESTS = Path.of("src/test/java");
    private static final Pattern PROGRAM = Pattern.compile("(?m)^public final class (\\w+)");
    private static final Pattern MAKING = Pattern.compile("StoreSlopes x = new StoreSlopes\\(\\);");
    private static final Pattern CALL = Pattern.compile("x\\.(\\w+)\\([-0-9, ]*\\);");
    private static final Pattern ANSWERED = Pattern.compile("(x\\.\\w+\\([-0-9, ]*\\));\\s+// (-?\\d+|StoreSlopes\\.\\w+): .+");
    private static final int MOST_CALLS = 512;

    /** What stands between two fences, with the word behind the first one. */
    private record Block(String language, String text) {
    }

    public static void main(String[] args) throws Exception {
        List<Block> blocks = blocksOf(Files.readAllLines(README));
        Path place = Files.createTempDirectory("readme");
        try {
            copyInto(place, Path.of("src/main/java"));
            copyInto(place, TESTS);
            shownRunsAndPrints(blocks, place);
            shownCallsAnswer(blocks, place);
        } finally {
            remove(place);
        }
        allOfTheFaceIsShown(blocks);
        allTestsAreNamed();
        Check.end();
    }

    private static List<Block> blocksOf(List<String> lines) {
        List<Block> blocks = new ArrayList<>();
        String language = null;
        StringBuilder text = new StringBuilder();
        for (String line : lines) {
            boolean fence = line.startsWith("```");
            if (fence && language == null) {
                language = line.substring(3);
            } else if (fence) {
                blocks.add(new Block(language, text.toString()));
                language = null;
                text.setLength(0);
            } else if (language != null) {
                text.append(line).append('\n');
            }
        }
        Check.holds("every block of README.md has an end", language == null);
        return blocks;
    }

    /** Programs are written down, commands are run, and what they printed is what the next text says. */
    private static void shownRunsAndPrints(List<Block> blocks, Path place) throws Exception {
        String printed = "";
        int programs = 0;
        int commands = 0;
        int texts = 0;
        for (Block block : blocks) {
            Matcher program = PROGRAM.matcher(block.text());
            if (block.language().equals("java") && program.find()) {
                Files.writeString(place.resolve(program.group(1) + ".java"), block.text());
                programs++;
            } else if (block.language().equals("sh")) {
                printed = run(place, block.text());
                commands++;
            } else if (block.language().equals("text")) {
                Check.holds("printed was:\n" + printed + "README.md says:\n" + block.text() + "which", printed.equals(block.text()));
                texts++;
            }
        }
        Check.holds("README.md shows a program, how to run it and the tests, and what it prints",
            programs > 0 && commands > 1 && texts > 0);
    }

    private static void shownCallsAnswer(List<Block> blocks, Path place) throws Exception {
        StringBuilder source = new StringBuilder("public final class ShownCalls {\n");
        source.append("    public static void main(String[] args) {\n");
        int calls = 0;
        for (String line : linesOfCalls(blocks)) {
            Matcher answered = ANSWERED.matcher(line);
            if (answered.matches()) {
                source.append("        Check.due(\"README.md: ").append(answered.group(1)).append("\", ");
                source.append(answered.group(1)).append(", ").append(answered.group(2)).append(");\n");
                calls++;
            } else {
                Check.holds("a line of README.md that is no call with its answer: " + line, MAKING.matcher(line).matches());
                source.append("        ").append(line).append('\n');
            }
        }
        source.append("        Check.end();\n    }\n}\n");
        Check.holds("README.md shows calls with their answers, for one object", calls > 0 && calls <= MOST_CALLS);
        Files.writeString(place.resolve("ShownCalls.java"), source.toString());
        run(place, "javac -d shown src/main/java/StoreSlopes.java src/test/java/Check.java ShownCalls.java\njava -cp shown ShownCalls\n");
    }

    private static List<String> linesOfCalls(List<Block> blocks) {
        List<String> lines = new ArrayList<>();
        for (Block block : blocks) {
            if (!block.language().equals("java") || PROGRAM.matcher(block.text()).find()) continue;
            for (String line : block.text().split("\n")) {
                if (!line.isBlank()) lines.add(line);
            }
        }
        return lines;
    }

    /** Runs lines as a shell would, each of which must succeed; answers what they printed. */
    private static String run(Path place, String commands) throws Exception {
        Path out = place.resolve("printed");
        ProcessBuilder shell = new ProcessBuilder("sh", "-e", "-c", commands);
        shell.directory(place.toFile()).redirectErrorStream(true).redirectOutput(out.toFile());
        int code = shell.start().waitFor();
        String printed = Files.readString(out);
        if (code != 0) System.out.print(printed);
        Check.due("what is shown in README.md, run as\n" + commands, code, 0);
        return printed;
    }

    private static void allOfTheFaceIsShown(List<Block> blocks) {
        List<String> shown = new ArrayList<>();
        for (String line : linesOfCalls(blocks)) {
            Matcher call = CALL.matcher(line);
            if (call.find()) shown.add(call.group(1));
        }
        for (Method m : StoreSlopes.class.getDeclaredMethods()) {
            if (!Modifier.isPublic(m.getModifiers())) continue;
            Check.holds("README.md shows " + m.getName(), shown.contains(m.getName()));
        }
    }

    private static void allTestsAreNamed() throws IOException {
        String text = Files.readString(README);
        try (DirectoryStream<Path> files = Files.newDirectoryStream(TESTS, "*.java")) {
            for (Path file : files) {
                Check.holds("README.md names " + file.getFileName(), text.contains(file.getFileName().toString()));
            }
        }
        Check.holds("README.md says that .ci/run runs the tests, and it can be run",
            text.contains("`.ci/run`") && Files.isExecutable(Path.of(".ci/run")));
    }

    private static void copyInto(Path place, Path directory) throws IOException {
        Path target = place.resolve(directory);
        Files.createDirectories(target);
        try (DirectoryStream<Path> files = Files.newDirectoryStream(directory, "*.java")) {
            for (Path file : files) Files.copy(file, target.resolve(file.getFileName()));
        }
    }

    private static void remove(Path place) throws IOException {
        List<Path> all;
        try (Stream<Path> found = Files.walk(place)) {
            all = found.sorted(Comparator.reverseOrder()).toList();
        }
        for (Path path : all) Files.delete(path);
    }
}
