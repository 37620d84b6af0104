import java.io.ByteArrayOutputStream;
import java.io.PrintStream;
import java.io.PrintWriter;
import java.io.StringWriter;
import java.lang.reflect.Method;
import java.lang.reflect.Modifier;
import java.net.URL;
import java.net.URLClassLoader;
import java.nio.charset.StandardCharsets;
import java.nio.file.Files;
import java.nio.file.Path;
import java.util.ArrayList;
import java.util.List;
import java.util.Set;
import java.util.TreeSet;
import java.util.spi.ToolProvider;
import java.util.stream.Stream;

/** What README.md says of the use of the class and of its tests is so. */
public final class ReadmeTest {
    private static final Check CHECK = new Check("ReadmeTest");

    public static void main(String[] arguments) throws Exception {
        List<String> lines = Files.readAllLines(Path.of("README.md"));
        example(block(lines, "java"), block(lines, "text"));
        calls(table(lines, "call"));
        faults(table(lines, "fault"));
        tests(table(lines, "test"));
        CHECK.end();
    }

    /** The lines of the first block of this kind. */
    private static List<String> block(List<String> lines, String kind) {
        int from = lines.indexOf("```" + kind) + 1;
        CHECK.same("a block of " + kind, from > 0 ? 1 : 0, 1);
        List<String> rest = lines.subList(from, lines.size());
        return rest.subList(0, Math.max(0, rest.indexOf("```")));
    }

    /** The rows, cut into their cells, of the table whose first column has this head. */
    private static List<String[]> table(List<String> lines, String head) {
        List<String[]> rows = new ArrayList<>();
        boolean inTable = false;
        for (String line : lines) {
            inTable = line.startsWith("| " + head + " |") || inTable && line.startsWith("|");
            if (inTable && line.startsWith("| `")) {
                rows.add(line.substring(1).split("\\|", -1));
            }
        }
        return rows;
    }

    /** A cell without the marks that show it as code. */
    private static String bare(String cell) {
        return cell.replace("`", "").trim();
    }

    private static void example(List<String> program, List<String> due) throws Exception {
        Path folder = Files.createTempDirectory("readme");
        try {
            Path file = folder.resolve("Example.java");
            Files.write(file, program);
            String told = compiled(file, folder);
            CHECK.same("what javac tells of the example", told, "");
            if (told.isEmpty()) {
                CHECK.same("what the example prints", String.join("\n", printed(folder)), String.join("\n", due));
            }
        } finally {
            for (String name : new String[] {"Example.java", "Example.class"}) {
                Files.deleteIfExists(folder.resolve(name));
            }
            Files.delete(folder);
        }
    }

    private static String compiled(Path file, Path folder) {
        StringWriter told = new StringWriter();
        PrintWriter writer = new PrintWriter(told);
        ToolProvider javac = ToolProvider.findFirst("javac").orElseThrow();
        javac.run(writer, writer, "--release", "17", "-Xlint:all", "-cp", System.getProperty("java.class.path"),
            "-d", folder.toString(), file.toString());
        writer.flush();
        return told.toString();
    }

    private static List<String> printed(Path folder) throws Exception {
        ByteArrayOutputStream bytes = new ByteArrayOutputStream();
        PrintStream before = System.out;
        try (URLClassLoader loader = new URLClassLoader(new URL[] {folder.toUri().toURL()})) {
            System.setOut(new PrintStream(bytes, true, StandardCharsets.UTF_8));
            loader.loadClass("Example").getMethod("main", String[].class).invoke(null, (Object) new String[0]);
        } finally {
            System.setOut(before);
        }
        return bytes.toString(StandardCharsets.UTF_8).lines().toList();
    }

    /** Each method of the face has a row, with as many parameters and with what it throws. */
    private static void calls(List<String[]> rows) {
        Set<String> told = new TreeSet<>();
        for (String[] row : rows) {
            String call = bare(row[0]);
            String inner = call.substring(call.indexOf('(') + 1, call.length() - 1);
            int parameters = inner.isEmpty() ? 0 : inner.split(", ").length;
            told.add(call.substring(0, call.indexOf('(')) + " " + parameters + " " + bare(row[3]));
        }
        Set<String> due = new TreeSet<>();
        for (Method method : BracedPages.class.getDeclaredMethods()) {
            if (Modifier.isPublic(method.getModifiers())) {
                List<String> thrown = Stream.of(method.getExceptionTypes()).map(Class::getSimpleName).toList();
                due.add(method.getName() + " " + method.getParameterCount() + " " + String.join(", ", thrown));
            }
        }
        CHECK.same("calls", told.toString(), due.toString());
        CHECK.same("rows of calls", rows.size(), due.size());
    }

    private static void faults(List<String[]> rows) throws Exception {
        Set<String> told = new TreeSet<>();
        for (String[] row : rows) {
            String name = bare(row[0]);
            String text = bare(row[3]);
            BracedPages pages = Check.fed(text);
            int answer = bare(row[2]).equals("readBraced") ? pages.readBraced() : pages.readTagged();
            CHECK.same(text, answer, BracedPages.class.getField(name).getInt(null));
            CHECK.same(text + " at", pages.at(), Integer.parseInt(bare(row[4])));
            told.add(name);
        }
        CHECK.same("faults", told.toString(), new TreeSet<>(Set.of("OPEN", "BEHIND", "WORD", "RANGE", "TABLE", "DEEP",
            "LONG", "TAG", "SAME")).toString());
    }

    private static void tests(List<String[]> rows) throws Exception {
        Set<String> told = new TreeSet<>();
        for (String[] row : rows) {
            told.add(bare(row[0]) + ".java");
        }
        Set<String> due = new TreeSet<>();
        try (Stream<Path> files = Files.list(Path.of("src", "test", "java"))) {
            files.map(file -> file.getFileName().toString()).filter(name -> name.endsWith("Test.java")).forEach(due::add);
        }
        CHECK.same("tests", told.toString(), due.toString());
        CHECK.same("rows of tests", rows.size(), due.size());
        CHECK.same(".ci/run can be run", Files.isExecutable(Path.of(".ci", "run")) ? 1 : 0, 1);
    }
}
