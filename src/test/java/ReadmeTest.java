import java.io.IOException;
import java.lang.reflect.Method;
import java.lang.reflect.Modifier;
import java.nio.file.FileVisitResult;
import java.nio.file.Files;
import java.nio.file.Path;
import java.nio.file.SimpleFileVisitor;
import java.nio.file.attribute.BasicFileAttributes;
import java.util.ArrayList;
import java.util.List;
import java.util.TreeSet;
import java.util.regex.Matcher;
import java.util.regex.Pattern;
import java.util.stream.Stream;

/** What README.md says is done as it stands there, in a copy of the project with ../shared/tests beside it. */
public final class ReadmeTest {
    private static final Path SHARED = Path.of("../shared/tests");
    private static final Pattern EXAMPLE = Pattern.compile("(x\\.(\\w+)\\(.*?\\));\\s+// (-?\\d+)( \\((\\w+)\\))?.*");
    private static final Pattern PROGRAM = Pattern.compile("public class (\\w+) ");
    private static final String MADE = "ExamplesOfReadme";

    /** What stands between two fences. */
    private record Block(String language, List<String> lines) {
        String text() {
            return String.join("\n", lines) + "\n";
        }
    }

    public static void main(String[] args) throws Exception {
        Path room = Files.createTempDirectory("readme");
        try {
            List<Block> blocks = blocks(Files.readAllLines(Path.of("README.md")));
            Path project = copied(room);
            commands(blocks, project);
            examples(blocks, project);
            eachCallHasAnExample(blocks);
            eachTestIsListed();
        } finally {
            remove(room);
        }
        Due.end();
    }

    private static List<Block> blocks(List<String> lines) {
        List<Block> blocks = new ArrayList<>();
        Block open = null;
        for (String line : lines) {
            if (!line.startsWith("```")) {
                if (open != null) {
                    open.lines.add(line);
                }
            } else if (open == null) {
                open = new Block(line.substring(3), new ArrayList<>());
            } else {
                blocks.add(open);
                open = null;
            }
        }
        Due.holds("each fence is closed", open == null);
        return blocks;
    }

    private static Path copied(Path room) throws IOException {
        Path project = room.resolve("main");
        copy(Path.of("src"), project.resolve("src"));
        copy(SHARED, room.resolve("shared/tests"));
        return project;
    }

    private static void copy(Path from, Path to) throws IOException {
        try (Stream<Path> all = Files.walk(from)) {
            for (Path path : all.toList()) {
                Path copy = to.resolve(from.relativize(path).toString());
                if (Files.isDirectory(path)) {
                    Files.createDirectories(copy);
                } else {
                    Files.copy(path, copy);
                }
            }
        }
    }

    private static void remove(Path room) throws IOException {
        Files.walkFileTree(room, new SimpleFileVisitor<>() {
            @Override
            public FileVisitResult visitFile(Path file, BasicFileAttributes attributes) throws IOException {
                Files.delete(file);
                return FileVisitResult.CONTINUE;
            }

            @Override
            public FileVisitResult postVisitDirectory(Path directory, IOException failure) throws IOException {
                Files.delete(directory);
                return FileVisitResult.CONTINUE;
            }
        });
    }

    /** What a command says; a line of its own if it fails. */
    private static String said(String command, Path where) throws IOException, InterruptedException {
        Process process = new ProcessBuilder("sh", "-c", command).directory(where.toFile())
                .redirectErrorStream(true).start();
        process.getOutputStream().close();
        String said = new String(process.getInputStream().readAllBytes());
        int code = process.waitFor();
        Due.is("the exit code of: " + command + (code == 0 ? "" : ", which said " + said), code, 0);
        return said;
    }

    /** Commands are run, and say what the next text tells, if there is one right behind them. */
    private static void commands(List<Block> blocks, Path project) throws Exception {
        int run = 0;
        for (int i = 0; i < blocks.size(); i++) {
            Block block = blocks.get(i);
            Matcher program = PROGRAM.matcher(block.text());
            if (block.language.equals("java") && program.find()) {
                Files.writeString(project.resolve(program.group(1) + ".java"), block.text());
            }
            if (block.language.equals("sh")) {
                StringBuilder said = new StringBuilder();
                for (String command : block.lines) {
                    said.append(said(command, project));
                    run++;
                }
                boolean told = i + 1 < blocks.size() && blocks.get(i + 1).language.equals("text");
                Due.holds("the commands say:\n" + said, !told || said.toString().equals(blocks.get(i + 1).text()));
            }
        }
        Due.holds("there are commands", run > 0);
    }

    private static List<String> exampleLines(List<Block> blocks) {
        List<String> lines = new ArrayList<>();
        for (Block block : blocks) {
            if (block.language.equals("java") && !PROGRAM.matcher(block.text()).find()) {
                lines.addAll(block.lines);
            }
        }
        return lines;
    }

    /** The examples as a program of their own, each answer held against what is told behind it. */
    private static void examples(List<Block> blocks, Path project) throws Exception {
        StringBuilder code = new StringBuilder("public final class " + MADE + " {\n"
                + "public static void main(String[] args) {\n");
        for (String line : exampleLines(blocks)) {
            Matcher example = EXAMPLE.matcher(line);
            if (example.matches()) {
                String call = example.group(1);
                code.append("Due.is(\"README.md: ").append(call).append("\", ").append(call).append(", ")
                        .append(example.group(3)).append("L);\n");
                named(call, example.group(3), example.group(5));
            } else {
                Due.holds("no example, and tells no answer: " + line, !line.contains("//"));
                code.append(line).append('\n');
            }
        }
        code.append("Due.end();\n}\n}\n");
        Files.writeString(project.resolve(MADE + ".java"), code);
        said("javac -d examples src/main/java/DykeFarms.java src/test/java/Due.java " + MADE + ".java", project);
        said("java -cp examples " + MADE, project);
    }

    private static void named(String call, String answer, String name) throws Exception {
        boolean below = answer.startsWith("-") && answer.length() == 2;
        Due.holds(call + ": what " + answer + " is called is told", below == (name != null));
        if (name != null) {
            Due.is(call + ": " + name, DykeFarms.class.getField(name).getInt(null), Long.parseLong(answer));
        }
    }

    private static void eachCallHasAnExample(List<Block> blocks) {
        TreeSet<String> called = new TreeSet<>();
        int calls = 0;
        for (String line : exampleLines(blocks)) {
            Matcher example = EXAMPLE.matcher(line);
            if (example.matches()) {
                called.add(example.group(2));
                calls++;
            }
        }
        for (Method method : DykeFarms.class.getDeclaredMethods()) {
            Due.holds("an example of " + method.getName() + "() tells its answer",
                    !Modifier.isPublic(method.getModifiers()) || called.contains(method.getName()));
        }
        Due.holds("there are examples, on one object, that is for 512 calls", calls > 31 && calls < 400);
    }

    private static void eachTestIsListed() throws IOException {
        TreeSet<String> listed = new TreeSet<>();
        Matcher name = Pattern.compile("`(\\w+Test)`").matcher("");
        for (String line : Files.readAllLines(Path.of("README.md"))) {
            name.reset(line.startsWith("|") ? line.split("\\|")[1] : "");
            while (name.find()) {
                listed.add(name.group(1));
            }
        }
        TreeSet<String> there = new TreeSet<>();
        try (Stream<Path> files = Files.list(Path.of("src/test/java"))) {
            for (Path file : files.toList()) {
                String test = file.getFileName().toString();
                if (test.endsWith("Test.java")) {
                    there.add(test.substring(0, test.length() - ".java".length()));
                }
            }
        }
        Due.holds("README.md lists " + listed + " of the tests " + there, listed.equals(there));
    }
}
