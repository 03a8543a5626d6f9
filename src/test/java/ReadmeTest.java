import java.io.ByteArrayOutputStream;
import java.io.PrintStream;
import java.lang.reflect.Field;
import java.net.URL;
import java.net.URLClassLoader;
import java.nio.file.Files;
import java.nio.file.Path;
import java.util.ArrayList;
import java.util.List;
import java.util.Map;
import java.util.TreeMap;
import java.util.function.IntPredicate;
import java.util.regex.Matcher;
import java.util.regex.Pattern;
import javax.tools.ToolProvider;

/** What README.md tells of the class: its example is compiled and run, its tables are compared with face and document. */
public final class ReadmeTest {
    private static final Pattern CODE = Pattern.compile("\\b(NONE|BAD|STATE|FULL|NO)\\b|-100");

    private static int checked;
    private static int wrong;

    public static void main(String[] args) throws Exception {
        String readme = Files.readString(Path.of("README.md"));
        example(readme);
        List<String[]> rows = rows(readme);
        calls(rows, Files.readString(Path.of("../shared/DOC.md")));
        constants(rows);
        selectors(rows);
        System.out.println(checked + " statements of README.md checked, " + wrong + " wrong");
        if (wrong != 0) {
            System.exit(1);
        }
    }

    private static void due(String what, Object got, Object want) {
        checked++;
        if (!got.equals(want)) {
            wrong++;
            System.out.println("README.md, " + what + ": " + got + " stands there, due is " + want);
        }
    }

    private static void example(String readme) throws Exception {
        Matcher blocks = Pattern.compile("```java\n(.*?)```.*?```\n(.*?)```", Pattern.DOTALL).matcher(readme);
        if (!blocks.find()) {
            due("the example", "nothing", "a program and what it prints");
            return;
        }
        Path dir = Files.createTempDirectory("readme");
        Path source = Files.writeString(dir.resolve("Example.java"), blocks.group(1));
        int errors = ToolProvider.getSystemJavaCompiler().run(null, null, null, "-encoding", "UTF-8",
                "-cp", System.getProperty("java.class.path"), "-d", dir.toString(), source.toString());
        due("errors of the example", errors, 0);
        if (errors == 0) {
            due("what the example prints", blocks.group(2), printed(dir));
        }
        try (var files = Files.list(dir)) {
            for (Path file : files.toList()) {
                Files.delete(file);
            }
        }
        Files.delete(dir);
    }

    private static String printed(Path dir) throws Exception {
        PrintStream before = System.out;
        ByteArrayOutputStream bytes = new ByteArrayOutputStream();
        try (URLClassLoader loader = new URLClassLoader(new URL[] {dir.toUri().toURL()});
                PrintStream into = new PrintStream(bytes)) {
            System.setOut(into);
            loader.loadClass("Example").getMethod("main", String[].class).invoke(null, (Object) new String[0]);
        } finally {
            System.setOut(before);
        }
        return bytes.toString().replace(System.lineSeparator(), "\n");
    }

    /** The rows of all tables, as their cells without the quotes of code. */
    private static List<String[]> rows(String readme) {
        List<String[]> rows = new ArrayList<>();
        for (String line : readme.split("\n")) {
            if (line.startsWith("| ")) {
                rows.add(line.substring(1).replace("`", "").strip().split("\\s*\\|\\s?"));
            }
        }
        return rows;
    }

    /** Each call of the face has one row, with its arguments and, in the document's order, its error codes. */
    private static void calls(List<String[]> rows, String document) {
        Matcher promises = Pattern.compile("## Promise \\d+: .*?\n\n`(?:int |long )?(.*?)`(.*?)(?=\n## )", Pattern.DOTALL)
                .matcher(document);
        int n = 0;
        while (promises.find()) {
            n++;
            String call = promises.group(1).replaceAll("\\bint ", "");
            int returns = promises.group(2).indexOf("\nReturns ");
            String answers = returns < 0 ? "" : promises.group(2).substring(returns);
            int found = 0;
            for (String[] row : rows) {
                if (row[0].strip().equals(call)) {
                    found++;
                    due("errors of " + call, codes(row.length > 3 ? row[3] : ""), codes(answers));
                }
            }
            due("rows of " + call, found, 1);
        }
        due("promises gone through", n, 27);
    }

    private static List<String> codes(String text) {
        List<String> codes = new ArrayList<>();
        Matcher m = CODE.matcher(text);
        while (m.find()) {
            codes.add(m.group());
        }
        return codes;
    }

    private static void constants(List<String[]> rows) throws IllegalAccessException {
        for (Field field : VariantBoard.class.getFields()) {
            String told = "nothing";
            for (String[] row : rows) {
                if (row[0].strip().equals(field.getName())) {
                    told = row[1];
                }
            }
            due("the value of " + field.getName(), told, String.valueOf(field.get(null)));
        }
    }

    /** The selectors that stand in the table are those, and only those, that the calls take. */
    private static void selectors(List<String[]> rows) {
        VariantBoard board = boardWithMoves();
        Map<String, IntPredicate> takes = new TreeMap<>();
        takes.put("type", what -> board.type(0, what, 0) != VariantBoard.NONE);
        takes.put("rule", what -> board.rule(what, 0) != VariantBoard.NONE);
        takes.put("moves", kind -> board.moves(kind) != VariantBoard.NONE);
        takes.put("move", what -> board.move(0, what) != VariantBoard.NONE);
        takes.put("property", what -> board.property(0, what) != VariantBoard.NONE);
        takes.put("count", what -> board.count(what) != VariantBoard.NONE);
        for (String call : takes.keySet()) {
            for (int selector = -1; selector < 50; selector++) {
                due(call + "'s selector " + selector, isListed(rows, call, selector), takes.get(call).test(selector));
            }
        }
    }

    /** Type 0 promotes, so that no right answer is -1. */
    private static VariantBoard boardWithMoves() {
        VariantBoard board = new VariantBoard();
        feed(board, "king");
        board.define(0);
        board.type(0, 1, 0);
        feed(board, "4a/5/5/5/A4");
        board.setup();
        return board;
    }

    private static void feed(VariantBoard board, String text) {
        for (int i = 0; i < text.length(); i++) {
            board.feed(text.charAt(i));
        }
    }

    private static boolean isListed(List<String[]> rows, String call, int selector) {
        boolean listed = false;
        for (String[] row : rows) {
            if (row[0].strip().equals(call)) {
                String[] ends = row[1].split(" to ");
                int first = Integer.parseInt(ends[0]);
                int last = Integer.parseInt(ends[ends.length - 1]);
                listed |= first <= selector && selector <= last;
            }
        }
        return listed;
    }
}
