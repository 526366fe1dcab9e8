import java.io.ByteArrayOutputStream;
import java.io.IOException;
import java.io.PrintStream;
import java.net.URL;
import java.net.URLClassLoader;
import java.nio.charset.StandardCharsets;
import java.nio.file.Files;
import java.nio.file.Path;
import java.util.ArrayList;
import java.util.List;
import java.util.regex.Matcher;
import java.util.regex.Pattern;
import javax.tools.ToolProvider;

/** README.md tells each call as the document does, and its examples do what it says. */
public final class ReadmeTest {
    private static final Path PAGE = Path.of("README.md");
    private static final Path DOCUMENT = Path.of("../shared/DOC.md");
    private static final Path TESTS = Path.of("src/test/java");
    private static final String EXAMPLE = "Example";
    /** Child 0 owns the squares of a hop by 3333, and both children have enough pebbles for all that follows. */
    private static final String RICH = "n99;n99;c0@2;c0@5;c0@8;c0@11";

    public static void main(String[] args) throws ReflectiveOperationException, IOException {
        String page = Files.readString(PAGE);
        calls(page);
        commands(page);
        tests(page);
        example(page);
        Check.end("ReadmeTest");
    }

    /** Each call of the document's face stands in a row of its own, with what it throws in the last cell. */
    private static void calls(String page) throws IOException {
        Matcher face = Pattern.compile("\n    public ([^;{]+\\))( throws ([^;]+))?;").matcher(Files.readString(DOCUMENT));
        int count = 0;
        while (face.find()) {
            String thrown = face.group(3) == null ? "" : "`" + face.group(3).replace(", ", "`, `") + "`";
            List<String> cells = cellsOf(page, "`" + face.group(1) + "`");
            Check.same("what " + face.group(1) + " throws", thrown, cells.isEmpty() ? "no row" : cells.get(cells.size() - 1));
            count++;
        }
        Check.same("how many calls the document's face has", ChalkWarrants.class.getConstructors().length
                + FaceTest.methods().size(), count);
    }

    /** Each command of the table of texts does the same as the call beside it. */
    private static void commands(String page) {
        ChalkWarrants typed = Edges.after(RICH);
        ChalkWarrants called = Edges.after(RICH);
        StringBuilder kinds = new StringBuilder();
        Matcher row = Pattern.compile("\\| `(\\S+)` \\| `(\\w+\\([\\d, ]*\\))`[^|]*\\|\n").matcher(page);
        while (row.find()) {
            String words = row.group(2).replaceAll("[(), ]+", " ").strip();
            kinds.append(row.group(1).charAt(0));
            Check.type(typed, row.group(1));
            Check.same("the text " + row.group(1), "1", Edges.call(typed, "commands"));
            Check.same("whether " + words + " throws", false, Edges.call(called, words).startsWith("throws"));
            Check.same("the state after " + row.group(1), Picture.of(called), Picture.of(typed));
        }
        Check.same("the kinds of commands", "nchwsrtg", kinds);
    }

    /** Each test of the project stands in the table of tests, and nothing else does. */
    private static void tests(String page) throws IOException {
        List<String> told = new ArrayList<>();
        Matcher row = Pattern.compile("\n\\| `(\\w+Test)` \\|").matcher(page);
        while (row.find()) {
            told.add(row.group(1) + ".java");
        }
        try (var files = Files.list(TESTS)) {
            List<String> there = files.map(file -> file.getFileName().toString())
                    .filter(name -> name.endsWith("Test.java")).sorted().toList();
            Check.same("the tests", there, told.stream().sorted().toList());
        }
    }

    /** The example compiles with the class as it stands, and prints what the page says. */
    private static void example(String page) throws ReflectiveOperationException, IOException {
        Path room = Files.createTempDirectory("readme");
        try {
            Path source = room.resolve(EXAMPLE + ".java");
            Files.writeString(source, block(page, "java"));
            int failed = ToolProvider.getSystemJavaCompiler().run(null, null, null, "-encoding", "UTF-8",
                    "-cp", System.getProperty("java.class.path"), "-d", room.toString(), source.toString());
            Check.same("compiling the example", 0, failed);
            if (failed == 0) {
                Check.same("what the example prints", block(page, "text"), printed(room));
            }
        } finally {
            for (String end : new String[] {".java", ".class"}) {
                Files.deleteIfExists(room.resolve(EXAMPLE + end));
            }
            Files.delete(room);
        }
    }

    private static String printed(Path room) throws ReflectiveOperationException, IOException {
        ByteArrayOutputStream shown = new ByteArrayOutputStream();
        PrintStream screen = System.out;
        System.setOut(new PrintStream(shown, true, StandardCharsets.UTF_8));
        try (URLClassLoader loader = new URLClassLoader(new URL[] {room.toUri().toURL()})) {
            loader.loadClass(EXAMPLE).getMethod("main", String[].class).invoke(null, (Object) new String[0]);
        } finally {
            System.setOut(screen);
        }
        return shown.toString(StandardCharsets.UTF_8).replace("\r\n", "\n");
    }

    /** The first block of the page that is in the language. */
    private static String block(String page, String language) {
        String head = "\n```" + language + "\n";
        int start = page.indexOf(head);
        int end = page.indexOf("```\n", start + head.length());
        return start < 0 || end < 0 ? "no block" : page.substring(start + head.length(), end);
    }

    /** The cells of the row that begins with the first one, or none. */
    private static List<String> cellsOf(String page, String first) {
        for (String line : page.split("\n")) {
            if (line.startsWith("| " + first + " |")) {
                List<String> cells = new ArrayList<>();
                for (String cell : line.substring(1, line.length() - 1).split("\\|", -1)) {
                    cells.add(cell.strip());
                }
                return cells;
            }
        }
        return List.of();
    }
}
