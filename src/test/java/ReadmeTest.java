import java.lang.reflect.Method;
import java.net.URL;
import java.net.URLClassLoader;
import java.nio.file.Files;
import java.nio.file.Path;
import java.util.ArrayList;
import java.util.List;
import java.util.Set;
import java.util.TreeSet;
import java.util.regex.MatchResult;
import java.util.regex.Pattern;
import java.util.stream.Stream;
import javax.tools.ToolProvider;

/** What README.md says of the class is so: its example, its tables, its files. */
public final class ReadmeTest {
    private static final Due d = new Due();
    private static final String EXAMPLE = "ReadmeExample";

    public static void main(String[] args) throws Exception {
        String page = Files.readString(Path.of("README.md"));
        example(page);
        statements(page);
        kinds(page);
        laws(page);
        calls(page);
        files(page);
        d.end();
    }

    private static List<MatchResult> found(String pattern, String page) {
        return Pattern.compile(pattern, Pattern.MULTILINE).matcher(page).results().toList();
    }

    /** A line "x.call(..); // n: .." of the example promises the answer n. */
    private static void example(String page) throws Exception {
        d.part("example");
        String promised = "^(x\\.\\w+\\(.*\\)); +// (-?\\d+): .*$";
        String block = found("^```java\\n([^`]*)^```", page).get(0).group(1);
        List<MatchResult> lines = found(promised, block);
        List<Integer> answers = answersOf(block.replaceAll("(?m)" + promised, "answers.add($1);"));
        d.due("answers", answers.size(), lines.size());
        for (int i = 0; i < lines.size() && i < answers.size(); i++) {
            d.due(lines.get(i).group(1), answers.get(i), Integer.parseInt(lines.get(i).group(2)));
        }
    }

    @SuppressWarnings("unchecked")
    private static List<Integer> answersOf(String code) throws Exception {
        Path folder = Files.createTempDirectory("readme");
        Path source = folder.resolve(EXAMPLE + ".java");
        Files.writeString(source, "import java.util.*;\npublic final class " + EXAMPLE + " {\n"
            + "public static List<Integer> run() {\nList<Integer> answers = new ArrayList<>();\n"
            + code + "return answers;\n}\n}\n");
        int compiled = ToolProvider.getSystemJavaCompiler().run(null, null, null,
            "-cp", System.getProperty("java.class.path"), "-d", folder.toString(), source.toString());
        d.due("the example compiles", compiled, 0);
        try (URLClassLoader loader = new URLClassLoader(new URL[] {folder.toUri().toURL()})) {
            return (List<Integer>) loader.loadClass(EXAMPLE).getMethod("run").invoke(null);
        } finally {
            Files.deleteIfExists(folder.resolve(EXAMPLE + ".class"));
            Files.delete(source);
            Files.delete(folder);
        }
    }

    private static void statements(String page) {
        d.part("STATEMENTS");
        StringBuilder firsts = new StringBuilder();
        for (MatchResult row : found("^\\| `(\\w+;)` \\|", page)) {
            NeighboursMark x = Due.of("ps11;ps11;");
            d.due(row.group(1), Due.tell(x, row.group(1)), 1);
            firsts.append(row.group(1).charAt(0));
        }
        d.holds("one of each: " + firsts, firsts.toString().equals("phlrwxm"));
    }

    private static void kinds(String page) {
        d.part("KINDS");
        List<MatchResult> rows = found("^\\| `(\\w)` \\| (\\d) \\|", page);
        d.due("rows", rows.size(), 6);
        for (MatchResult row : rows) {
            d.due(row.group(), Due.of("p" + row.group(1) + "11;").pupil(0, 0), Integer.parseInt(row.group(2)));
        }
    }

    /** Three in a ROW; by each LAW the middle one's MARK tells the LAWS apart. */
    private static void laws(String page) {
        d.part("LAWS");
        List<MatchResult> rows = found("^\\| (\\d) \\| (.*) \\|$", page);
        String[] words = {"one KNOWS", "to the left", "to the right", "both", "one's own", "mean", "least"};
        int[] marks = {5, 7, 2, 4, 6, 4, 2};
        d.due("rows", rows.size(), words.length);
        NeighboursMark x = Due.of("h1;w;ps20;ps50;ps70;");
        for (int v = 0; v < words.length && v < rows.size(); v++) {
            d.due("number", Integer.parseInt(rows.get(v).group(1)), v);
            d.holds(rows.get(v).group(2) + " tells of " + words[v], rows.get(v).group(2).contains(words[v]));
            x.law(v);
            d.due("mark by " + words[v], x.mark(1), marks[v]);
        }
    }

    private static void calls(String page) {
        d.part("calls");
        Set<String> told = new TreeSet<>();
        for (MatchResult row : found("^\\| `(\\w+)\\((.*)\\)` \\|", page)) {
            String parameters = row.group(2);
            told.add(row.group(1) + " " + (parameters.isEmpty() ? 0 : parameters.split(", ").length));
        }
        Set<String> face = new TreeSet<>();
        for (Method m : NeighboursMark.class.getMethods()) {
            if (m.getDeclaringClass() == NeighboursMark.class) {
                face.add(m.getName() + " " + m.getParameterCount());
            }
        }
        d.holds("the table is the face: " + told + " " + face, told.equals(face));
    }

    private static void files(String page) throws Exception {
        d.part("files");
        for (MatchResult path : found("`((?:\\.\\./|src/)[\\w./]+|NOTES\\.md)`", page)) {
            d.holds(path.group(1) + " is there", Files.exists(Path.of(path.group(1))));
        }
        d.holds(".ci/run can be run", Files.isExecutable(Path.of(".ci/run")));
        List<String> tests = new ArrayList<>();
        try (Stream<Path> all = Files.list(Path.of("src/test/java"))) {
            all.forEach(file -> tests.add(file.getFileName().toString().replace(".java", "")));
        }
        for (String test : tests) {
            d.holds(test + " is told of", page.contains("`" + test + "`"));
        }
        for (MatchResult test : found("`(\\w+Test)`", page)) {
            d.holds(test.group(1) + " is there", tests.contains(test.group(1)));
        }
    }
}
