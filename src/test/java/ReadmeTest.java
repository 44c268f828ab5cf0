import java.io.IOException;
import java.nio.file.Files;
import java.nio.file.Path;
import java.util.ArrayList;
import java.util.List;
import java.util.TreeSet;
import java.util.stream.Stream;

/**
 * Does what README.md says, word for word, in a copy of the project: its program is saved, its commands
 * are run one block after the other, and what it says of their output is compared.
 */
final class ReadmeTest {
    private static final Desk DESK = new Desk();
    private static final String PROGRAM = "out/Example.java";
    /** This test is a part of it. */
    private static final String ALL_TESTS = ".ci/run\n";

    /** A block between two lines of three backquotes. */
    private record Block(String kind, String text) {
    }

    public static void main(String[] args) throws IOException, InterruptedException {
        Path project = Path.of("").toAbsolutePath();
        String readme = Files.readString(project.resolve("README.md"));
        Path room = Files.createTempDirectory("readme");
        try {
            follow(blocks(readme), copy(project, room));
        } finally {
            remove(room);
        }
        DESK.due("README.md says where its program is saved", readme.contains("`" + PROGRAM + "`") ? 1 : 0, 1);
        DESK.due(".ci/run can be run", Files.isExecutable(project.resolve(".ci/run")) ? 1 : 0, 1);
        same("the tests that README.md lists", listedTests(readme), presentTests(project));
        DESK.end("ReadmeTest");
    }

    private static List<Block> blocks(String readme) {
        List<Block> blocks = new ArrayList<>();
        String[] parts = readme.split("(?m)^```");
        for (int i = 1; i < parts.length; i += 2) {
            int line = parts[i].indexOf('\n');
            blocks.add(new Block(parts[i].substring(0, line), parts[i].substring(line + 1)));
        }
        return blocks;
    }

    private static void follow(List<Block> blocks, Path copy) throws IOException, InterruptedException {
        int programs = 0;
        int outputs = 0;
        String said = null;
        for (Block block : blocks) {
            if (block.kind.equals("java")) {
                Files.writeString(copy.resolve(PROGRAM), block.text);
                programs++;
            } else if (block.kind.equals("text") && said != null) {
                same("the output that README.md tells", said, block.text);
                outputs++;
            }
            boolean runs = block.kind.equals("sh") && !block.text.equals(ALL_TESTS);
            said = runs ? output(block.text, copy) : null;
        }
        DESK.due("programs in README.md", programs, 1);
        DESK.due("outputs in README.md", outputs, 1);
    }

    private static String output(String commands, Path where) throws IOException, InterruptedException {
        Process shell = new ProcessBuilder("sh", "-e", "-c", commands).directory(where.toFile()).redirectErrorStream(true).start();
        String said = new String(shell.getInputStream().readAllBytes());
        int code = shell.waitFor();
        DESK.due("the commands\n" + commands + "said\n" + said + "and their exit code", code, 0);
        return said;
    }

    private static Path copy(Path project, Path room) throws IOException {
        Path copy = Files.createDirectory(room.resolve("main"));
        try (Stream<Path> sources = Files.walk(project.resolve("src"))) {
            for (Path source : (Iterable<Path>) sources::iterator) {
                Files.copy(source, copy.resolve(project.relativize(source)));
            }
        }
        return copy;
    }

    private static void remove(Path room) throws IOException {
        List<Path> inside;
        try (Stream<Path> paths = Files.walk(room)) {
            inside = paths.toList();
        }
        for (int i = inside.size() - 1; i >= 0; i--) {
            Files.delete(inside.get(i));
        }
    }

    private static String listedTests(String readme) {
        TreeSet<String> names = new TreeSet<>();
        for (String line : readme.split("\n")) {
            if (line.matches("\\| `\\w+Test` \\|.*")) {
                names.add(line.substring(3, line.indexOf('`', 3)));
            }
        }
        return names.toString();
    }

    private static String presentTests(Path project) throws IOException {
        TreeSet<String> names = new TreeSet<>();
        try (Stream<Path> files = Files.list(project.resolve("src/test/java"))) {
            for (Path file : (Iterable<Path>) files::iterator) {
                String name = file.getFileName().toString();
                if (name.endsWith("Test.java")) {
                    names.add(name.substring(0, name.length() - ".java".length()));
                }
            }
        }
        return names.toString();
    }

    private static void same(String what, String got, String want) {
        DESK.due(what + ":\n" + got + "\nagainst\n" + want + "\nis the same", got.equals(want) ? 1 : 0, 1);
    }
}
