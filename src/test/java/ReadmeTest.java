import java.io.IOException;
import java.lang.reflect.Method;
import java.lang.reflect.Modifier;
import java.nio.charset.StandardCharsets;
import java.nio.file.FileVisitResult;
import java.nio.file.Files;
import java.nio.file.Path;
import java.nio.file.SimpleFileVisitor;
import java.nio.file.attribute.BasicFileAttributes;
import java.util.ArrayList;
import java.util.List;
import java.util.TreeSet;
import java.util.regex.Matcher;
import java.util.regex.Pattern;
import java.util.stream.Stream;

/** What README.md says can be done as it is written there: its programs and commands are run in a copy of the project. */
public final class ReadmeTest {
    private static final Pattern BLOCK = Pattern.compile("(?ms)^```(\\w+)\\n(.*?)^```$");
    private static final Pattern ROW = Pattern.compile("(?m)^\\| `(\\w+)(?:\\(([^)]*)\\))?` \\|(.*)\\|$");
    private static final Pattern PROGRAM = Pattern.compile("public final class (\\w+) \\{");
    /** Run by this test it would run this test. */
    private static final String ALL_TESTS = ".ci/run\n";

    private static String readme;
    private static Path top;

    private static void copyTree(Path from, Path to) throws IOException {
        try (Stream<Path> files = Files.walk(from)) {
            for (Path file : (Iterable<Path>) files::iterator) {
                Path copy = to.resolve(from.relativize(file).toString());
                if (Files.isDirectory(file)) {
                    Files.createDirectories(copy);
                } else {
                    Files.copy(file, copy);
                }
            }
        }
    }

    /** A copy of the project, and beside it the shared tests, so that nothing is written into the checkout. */
    private static Path room() throws IOException {
        Path room = Files.createTempDirectory("readme");
        top = Files.createDirectory(room.resolve("main"));
        copyTree(Path.of("src"), top.resolve("src"));
        copyTree(Path.of("../shared/tests"), Files.createDirectories(room.resolve("shared")).resolve("tests"));
        return room;
    }

    private static void remove(Path room) throws IOException {
        Files.walkFileTree(room, new SimpleFileVisitor<>() {
            @Override
            public FileVisitResult visitFile(Path file, BasicFileAttributes a) throws IOException {
                Files.delete(file);
                return FileVisitResult.CONTINUE;
            }

            @Override
            public FileVisitResult postVisitDirectory(Path directory, IOException e) throws IOException {
                Files.delete(directory);
                return FileVisitResult.CONTINUE;
            }
        });
    }

    /** Runs commands as a shell does that stops at the first that fails; what they print. */
    private static String run(String commands) throws IOException, InterruptedException {
        Process shell = new ProcessBuilder("bash", "-e", "-c", commands)
                .directory(top.toFile()).redirectErrorStream(true).start();
        shell.getOutputStream().close();
        String told = new String(shell.getInputStream().readAllBytes(), StandardCharsets.UTF_8);
        int code = shell.waitFor();
        Check.due("the exit code of\n" + commands + told, 0, code);
        return told;
    }

    private static void writeProgram(String text) throws IOException {
        Matcher name = PROGRAM.matcher(text);
        boolean whole = name.find();
        Check.same("a whole program begins with " + text.split("\n")[0], true, whole);
        if (whole) {
            String file = name.group(1) + ".java";
            Check.same("the file is named: " + file, true, readme.contains("`" + file + "`"));
            Files.writeString(top.resolve(file), text);
        }
    }

    /** In their order: programs are written, commands run; a text is what the commands ahead of it print. */
    private static void blocksHold() throws IOException, InterruptedException {
        Matcher block = BLOCK.matcher(readme);
        List<String> kinds = new ArrayList<>();
        String printed = "";
        while (block.find()) {
            String text = block.group(2);
            kinds.add(block.group(1));
            switch (block.group(1)) {
                case "java":
                    writeProgram(text);
                    break;
                case "sh":
                    printed = text.equals(ALL_TESTS) ? "" : run(text);
                    break;
                default:
                    Check.same("what the commands print", text, printed);
            }
        }
        Check.same("the blocks", List.of("java", "sh", "text", "sh", "sh", "sh", "sh"), kinds);
        Check.same("all tests are run by " + ALL_TESTS, true, readme.contains("```sh\n" + ALL_TESTS + "```"));
        Check.same(".ci/run can be run", true, Files.isExecutable(Path.of(".ci/run")));
    }

    private static String withParameters(String name, int many) {
        return name + " with " + many;
    }

    private static String exceptions(Method m) {
        List<String> names = new ArrayList<>();
        for (Class<?> type : m.getExceptionTypes()) {
            names.add(type.getSimpleName());
        }
        return String.join(" ", names);
    }

    /** A row names its exceptions itself, or those of another call ("as `hangs`") and then its own. */
    private static String namedIn(String row, List<String[]> rows) {
        Matcher as = Pattern.compile("as `(\\w+)`").matcher(row);
        StringBuilder named = new StringBuilder();
        if (as.find()) {
            for (String[] other : rows) {
                named.append(other[0].equals(as.group(1)) ? namedIn(other[1], rows) : "");
            }
        }
        Matcher names = Pattern.compile("`(\\w+Exception)`").matcher(row);
        while (names.find()) {
            named.append(named.length() == 0 ? "" : " ").append(names.group(1));
        }
        return named.toString();
    }

    /** Each call of the face has a row, with its parameters, and its exceptions in the face's order. */
    private static void eachCallHasARow() {
        TreeSet<String> rowed = new TreeSet<>();
        List<String[]> rows = new ArrayList<>();
        Matcher row = ROW.matcher(readme);
        while (row.find()) {
            if (row.group(2) != null) {
                int many = row.group(2).isEmpty() ? 0 : row.group(2).split(", ").length;
                rowed.add(withParameters(row.group(1), many));
                rows.add(new String[] {row.group(1), row.group(3)});
            }
        }
        TreeSet<String> face = new TreeSet<>();
        for (Method m : TeaCourt.class.getDeclaredMethods()) {
            if (Modifier.isPublic(m.getModifiers())) {
                face.add(withParameters(m.getName(), m.getParameterCount()));
                for (String[] one : rows) {
                    if (one[0].equals(m.getName())) {
                        Check.same("exceptions named of " + m.getName(), exceptions(m), namedIn(one[1], rows));
                    }
                }
            }
        }
        Check.same("calls that have a row", face, rowed);
    }

    private static void eachTestHasARow() throws IOException {
        TreeSet<String> rowed = new TreeSet<>();
        Matcher row = ROW.matcher(readme);
        while (row.find()) {
            if (row.group(2) == null) {
                rowed.add(row.group(1) + ".java");
            }
        }
        TreeSet<String> files = new TreeSet<>();
        try (Stream<Path> tests = Files.list(Path.of("src/test/java"))) {
            for (Path test : (Iterable<Path>) tests::iterator) {
                if (test.toString().endsWith("Test.java")) {
                    files.add(test.getFileName().toString());
                }
            }
        }
        Check.same("tests that have a row", files, rowed);
    }

    public static void main(String[] args) throws Exception {
        readme = Files.readString(Path.of("README.md"));
        Path room = room();
        try {
            blocksHold();
        } finally {
            remove(room);
        }
        eachCallHasARow();
        eachTestHasARow();
        Check.end();
    }
}
