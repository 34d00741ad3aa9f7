import java.lang.reflect.InvocationTargetException;
import java.net.URL;
import java.net.URLClassLoader;
import java.nio.file.Files;
import java.nio.file.Path;
import java.util.ArrayList;
import java.util.List;
import java.util.Set;
import java.util.TreeSet;
import java.util.regex.Matcher;
import java.util.regex.Pattern;
import javax.tools.JavaCompiler;
import javax.tools.ToolProvider;

/** What README.md shows of the use of the class, and how it tells to run the tests, holds as written. */
public final class ReadmeTest {
    private static final Path README = Path.of("README.md");
    private static final Path DOCUMENT = Path.of("../shared/DOC.md");
    private static final Path TESTS = Path.of("src/test/java");
    private static final Path RUN = Path.of(".ci/run");
    /** A call with its answer behind it, such as: x.count(4); // 2: two heads. */
    private static final Pattern ANSWERED = Pattern.compile("((?:x\\.\\w+|put)\\(.*\\));\\s*// (-?\\d+)(:.*)?");
    private static final Pattern CALL = Pattern.compile("`(\\w+)\\(([^)`]*)\\)`");
    private static final Pattern FACE = Pattern.compile("public (?:int|long) (\\w+)\\(([^)]*)\\);");

    /** Shared with the program that is made of the page's pieces. */
    public static final class Shown {
        private static final Check CHECK = new Check();

        private Shown() {
        }

        public static void due(String call, long got, long want) {
            CHECK.due("README.md: " + call, got, want);
        }
    }

    private final Check check = Shown.CHECK;
    private final String page;

    private ReadmeTest() throws Exception {
        page = Files.readString(README);
    }

    public static void main(String[] args) throws Exception {
        ReadmeTest test = new ReadmeTest();
        Path made = Files.createTempDirectory("readme");
        try {
            test.piecesOfJava(made);
        } finally {
            test.remove(made);
        }
        test.callsNamed();
        test.testsNamed();
        test.commands();
        test.check.finish();
    }

    private List<String> blocks(String language) {
        List<String> found = new ArrayList<>();
        Matcher m = Pattern.compile("(?sm)^```" + language + "\n(.*?)^```$").matcher(page);
        while (m.find()) found.add(m.group(1));
        return found;
    }

    // ---- the pieces of Java, one behind the other as one program

    private void piecesOfJava(Path made) throws Exception {
        StringBuilder members = new StringBuilder();
        StringBuilder body = new StringBuilder();
        int answers = 0;
        for (String block : blocks("java")) {
            if (block.startsWith("static ")) {
                members.append(block);
                continue;
            }
            for (String line : block.split("\n")) {
                Matcher m = ANSWERED.matcher(line);
                check.holds("README.md: no answer is read from <" + line + ">", m.matches() || !line.contains("; //"));
                answers += m.matches() ? 1 : 0;
                body.append(m.matches() ? asked(m) : line).append('\n');
            }
        }
        check.holds("README.md: answers were found: " + answers, answers >= 50);
        runProgram(made, "public class Readme {\n" + members
                + "public static void run() {\n" + body + "}\n}\n");
    }

    private static String asked(Matcher m) {
        String call = m.group(1);
        return "ReadmeTest.Shown.due(\"" + call.replace("\"", "'") + "\", " + call + ", " + m.group(2) + "L);";
    }

    private void runProgram(Path made, String program) throws Exception {
        Path file = Files.writeString(made.resolve("Readme.java"), program);
        JavaCompiler compiler = ToolProvider.getSystemJavaCompiler();
        String classes = System.getProperty("java.class.path");
        int exit = compiler.run(null, System.out, System.out, "-cp", classes, "-d", made.toString(), file.toString());
        check.due("README.md: its pieces of Java compile", exit, 0);
        if (exit != 0) {
            return;
        }
        try (URLClassLoader loader = new URLClassLoader(new URL[] {made.toUri().toURL()})) {
            loader.loadClass("Readme").getMethod("run").invoke(null);
        } catch (InvocationTargetException e) {
            check.holds("README.md: its pieces of Java run: " + e.getCause(), false);
        }
    }

    private void remove(Path directory) throws Exception {
        try (var files = Files.list(directory)) {
            for (Path file : files.toList()) Files.delete(file);
        }
        Files.delete(directory);
    }

    // ---- what the page names

    /** The table has each call of the document's face, with its arguments, once. */
    private void callsNamed() throws Exception {
        Set<String> face = new TreeSet<>();
        Matcher told = FACE.matcher(Files.readString(DOCUMENT));
        while (told.find()) {
            face.add(told.group(1) + "(" + told.group(2).replaceAll("(int|long) ", "") + ")");
        }
        String table = page.substring(page.indexOf("### All calls"), page.indexOf("What is refused"));
        Set<String> named = new TreeSet<>();
        Matcher m = CALL.matcher(table);
        while (m.find()) {
            String call = m.group(1) + "(" + m.group(2) + ")";
            check.holds("README.md: the table has " + call + " once", named.add(call));
        }
        for (String call : face) check.holds("README.md: the table has " + call, named.contains(call));
        for (String call : named) check.holds("README.md: the document has " + call, face.contains(call));
    }

    /** All tests of the project, and no others. */
    private void testsNamed() throws Exception {
        Set<String> tests = new TreeSet<>();
        try (var files = Files.list(TESTS)) {
            for (Path file : files.toList()) {
                String name = file.getFileName().toString().replace(".java", "");
                if (name.endsWith("Test")) tests.add(name);
            }
        }
        Set<String> named = new TreeSet<>();
        Matcher m = Pattern.compile("`(\\w+Test)`").matcher(page);
        while (m.find()) named.add(m.group(1));
        check.holds("README.md: the tests that are named " + named + " are " + tests, named.equals(tests));
    }

    // ---- what the page tells to run

    private void commands() throws Exception {
        check.holds("README.md: .ci/run is there", Files.isRegularFile(RUN));
        int others = 0;
        for (String block : blocks("sh")) {
            // This test is run by .ci/run, which therefore can't be run by it.
            if (!block.equals("bash .ci/run\n")) {
                others++;
                check.due("README.md: the exit code of <" + block + ">", exitOf(block), 0);
            }
        }
        check.due("README.md: so many commands but .ci/run", others, 1);
        check.due("README.md: so many commands", blocks("sh").size(), 2);
    }

    private static int exitOf(String commands) throws Exception {
        Process process = new ProcessBuilder("sh", "-e", "-c", commands).redirectErrorStream(true).start();
        process.getOutputStream().close();
        String told = new String(process.getInputStream().readAllBytes());
        int exit = process.waitFor();
        if (exit != 0) {
            System.out.println(told);
        }
        return exit;
    }
}
