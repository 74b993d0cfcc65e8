import java.io.IOException;
import java.lang.reflect.Method;
import java.lang.reflect.Modifier;
import java.nio.charset.StandardCharsets;
import java.nio.file.FileVisitResult;
import java.nio.file.Files;
import java.nio.file.Path;
import java.nio.file.SimpleFileVisitor;
import java.nio.file.StandardCopyOption;
import java.nio.file.attribute.BasicFileAttributes;
import java.util.ArrayList;
import java.util.List;
import java.util.Set;

/**
 * README.md: its commands for building the class, using it and running its tests (promises 1 to 34)
 * work as they are written there, in a copy of the project, and its example says what it prints.
 */
public final class ReadmeTest {
    /** One of its commands runs all tests, so this one, too: then it has nothing to do. */
    private static final String INSIDE = "MORAINE_README_TEST";
    private static final Path PROJECT = Path.of("").toAbsolutePath();
    private static final Set<String> NOT_COPIED = Set.of(".git", "build", "out");

    /** A block between two lines of three backticks, behind the first of which its kind stands. */
    private record Block(String kind, String text) {
    }

    private ReadmeTest() {
    }

    public static void main(String[] args) throws IOException {
        if (System.getenv(INSIDE) != null) {
            System.out.println("ReadmeTest: it is running already");
            return;
        }
        String readme = Files.readString(PROJECT.resolve("README.md"));
        List<Block> blocks = blocksOf(readme);
        commandsAreGiven(blocks);
        exampleIsShown(blocks);
        callsAreNamed(readme);
        Path room = Files.createTempDirectory("readme");
        try {
            copyAll(PROJECT, room.resolve("project"));
            Files.createSymbolicLink(room.resolve("shared"),
                    PROJECT.resolveSibling("shared").toRealPath());
            commandsWork(blocks, room.resolve("project"));
        } finally {
            deleteAll(room);
        }
        Check.end("ReadmeTest");
    }

    private static List<Block> blocksOf(String readme) {
        List<Block> blocks = new ArrayList<>();
        String kind = null;
        StringBuilder text = new StringBuilder();
        for (String line : readme.split("\n", -1)) {
            if (!line.startsWith("```")) {
                text.append(line).append('\n');
                continue;
            }
            if (kind != null) {
                blocks.add(new Block(kind, text.toString()));
            }
            kind = kind == null ? line.substring(3) : null;
            text.setLength(0);
        }
        return blocks;
    }

    private static void commandsAreGiven(List<Block> blocks) {
        Check.due("readme: a command that builds the class", true, () -> blocks.stream()
                .anyMatch(block -> block.kind.equals("sh") && block.text.startsWith("javac ")
                        && block.text.contains("src/main/java/MoraineSort.java\n")));
        Check.due("readme: a command that runs all tests", true, () -> blocks.stream()
                .anyMatch(block -> block.kind.equals("sh") && block.text.equals(".ci/run\n")));
    }

    private static void exampleIsShown(List<Block> blocks) throws IOException {
        String example = Files.readString(PROJECT.resolve("src/example/java/Example.java"));
        Check.due("readme: the example is the one that is run", true, () -> blocks.stream()
                .anyMatch(block -> block.kind.equals("java") && block.text.equals(example)));
    }

    private static void callsAreNamed(String readme) {
        for (Method method : MoraineSort.class.getDeclaredMethods()) {
            if (Modifier.isPublic(method.getModifiers())) {
                String call = "`" + method.getName() + "(";
                Check.due("readme: it names " + call, true, () -> readme.contains(call));
            }
        }
    }

    /** Block by block; what stands in a block of text right behind it is what it prints. */
    private static void commandsWork(List<Block> blocks, Path project) {
        for (int i = 0; i < blocks.size(); i++) {
            String commands = blocks.get(i).text;
            if (!blocks.get(i).kind.equals("sh")) {
                continue;
            }
            boolean isTold = i + 1 < blocks.size() && blocks.get(i + 1).kind.equals("text");
            String printed = run(commands, project);
            if (isTold) {
                Check.due("readme: " + commands, blocks.get(i + 1).text + "exit 0", () -> printed);
            } else {
                boolean isFine = printed.endsWith("exit 0");
                Check.due("readme: " + commands, "exit 0", () -> isFine ? "exit 0" : printed);
            }
        }
    }

    /** What the commands print, and behind it "exit" with the code they end with. */
    private static String run(String commands, Path project) {
        ProcessBuilder builder = new ProcessBuilder("sh", "-e", "-c", commands);
        builder.directory(project.toFile()).redirectErrorStream(true);
        builder.environment().put(INSIDE, "1");
        try {
            Process process = builder.start();
            process.getOutputStream().close();
            byte[] printed = process.getInputStream().readAllBytes();
            return new String(printed, StandardCharsets.UTF_8) + "exit " + process.waitFor();
        } catch (IOException | InterruptedException e) {
            return "not run: " + e;
        }
    }

    private static void copyAll(Path from, Path to) throws IOException {
        Files.walkFileTree(from, new SimpleFileVisitor<>() {
            @Override
            public FileVisitResult preVisitDirectory(Path at, BasicFileAttributes attributes)
                    throws IOException {
                if (NOT_COPIED.contains(at.getFileName().toString()) && !at.equals(from)) {
                    return FileVisitResult.SKIP_SUBTREE;
                }
                Files.createDirectories(to.resolve(from.relativize(at).toString()));
                return FileVisitResult.CONTINUE;
            }

            @Override
            public FileVisitResult visitFile(Path at, BasicFileAttributes attributes)
                    throws IOException {
                Files.copy(at, to.resolve(from.relativize(at).toString()),
                        StandardCopyOption.COPY_ATTRIBUTES);
                return FileVisitResult.CONTINUE;
            }
        });
    }

    private static void deleteAll(Path room) throws IOException {
        Files.walkFileTree(room, new SimpleFileVisitor<>() {
            @Override
            public FileVisitResult visitFile(Path at, BasicFileAttributes attributes)
                    throws IOException {
                Files.delete(at);
                return FileVisitResult.CONTINUE;
            }

            @Override
            public FileVisitResult postVisitDirectory(Path at, IOException problem)
                    throws IOException {
                Files.delete(at);
                return FileVisitResult.CONTINUE;
            }
        });
    }
}
