import java.io.PrintWriter;
import java.io.StringWriter;
import java.util.ArrayList;
import java.util.List;
import java.util.Map;
import java.util.Set;
import java.util.TreeMap;
import java.util.TreeSet;
import java.util.regex.Matcher;
import java.util.regex.Pattern;
import java.util.spi.ToolProvider;

/** The rules of LANGUAGE.md that the compiled class shows: what is called, how deep, and what is made where. */
public final class RulesTest {
    private static final String OUTER = "CabbageViews";
    private static final Pattern METHOD = Pattern.compile("  (?! )(.*?)([\\w.$]+)\\((.*)\\);");
    private static final Pattern CALLED = Pattern.compile("\\d+: invoke\\w+ .*// (?:Interface)?Method (.*):\\(.*");
    private static final Pattern MADE = Pattern.compile("\\d+: (new|newarray|anewarray|multianewarray) .*");
    private static final Pattern REFUSED = Pattern.compile(
            "\\d+: (athrow|checkcast|instanceof|monitorenter|invokedynamic|putstatic)\\b.*|Exception table:.*");
    private static final Set<String> LIBRARY = Set.of("java/lang/Object.<init>", "java/lang/Integer.bitCount",
            "java/lang/Math.abs", "java/lang/Math.max", "java/lang/Math.min", "java/lang/System.arraycopy",
            "java/lang/String.length", "java/lang/String.charAt");
    private static final int DEEPEST = 8;

    private final Check check = new Check();
    private final Map<String, Set<String>> calls = new TreeMap<>();
    private final Set<String> open = new TreeSet<>();

    public static void main(String[] args) throws Exception {
        RulesTest test = new RulesTest();
        test.read(OUTER);
        for (Class<?> inside : CabbageViews.class.getDeclaredClasses()) {
            test.read(inside.getName());
        }
        test.libraryThatIsListed();
        test.depthOfCalls();
        test.check.finish();
    }

    private static String disassembled(String name) {
        StringWriter told = new StringWriter();
        ToolProvider javap = ToolProvider.findFirst("javap").orElseThrow();
        javap.run(new PrintWriter(told), new PrintWriter(told), "-c", "-p",
                "-cp", System.getProperty("java.class.path"), name);
        return told.toString();
    }

    private void read(String type) {
        String method = "";
        for (String line : disassembled(type).split("\n")) {
            Matcher header = METHOD.matcher(line);
            if (header.matches()) {
                String name = header.group(2).equals(type) ? "<init>" : header.group(2);
                method = type + "." + name;
                check.holds("rule 1: " + method + " is there once", calls.put(method, new TreeSet<>()) == null);
                if (line.startsWith("  public ")) open.add(method);
            } else {
                readLine(type, method, line.trim());
            }
        }
    }

    private void readLine(String type, String method, String line) {
        Matcher called = CALLED.matcher(line);
        if (called.matches()) {
            String target = called.group(1).replace("\"", "");
            calls.get(method).add(target.contains(".") ? target : type + "." + target);
        }
        boolean makes = MADE.matcher(line).matches();
        check.holds("room: " + method + " makes something: " + line, !makes || method.endsWith("<init>"));
        check.holds("rules 3 to 6: " + method + " has " + line, !REFUSED.matcher(line).matches());
    }

    private void libraryThatIsListed() {
        for (Set<String> targets : calls.values()) {
            for (String target : targets) {
                check.holds("rule 4: " + target, calls.containsKey(target) || LIBRARY.contains(target));
            }
        }
    }

    /** Rule 11; a method that calls itself is counted once, and is the only one of its kind (rule 8). */
    private void depthOfCalls() {
        check.due("rule 1: so many open methods", open.size(), 72);
        List<String> chain = new ArrayList<>();
        int deepest = 0;
        for (String method : open) {
            chain.clear();
            int depth = depthFrom(method, chain);
            deepest = Math.max(deepest, depth);
            check.holds("rule 11: " + method + " goes " + depth + " deep", depth <= DEEPEST);
        }
        check.holds("rule 11: calls were followed", deepest > 4);
        int selfCallers = 0;
        for (Map.Entry<String, Set<String>> entry : calls.entrySet()) {
            selfCallers += entry.getValue().contains(entry.getKey()) ? 1 : 0;
        }
        check.due("rule 8: methods that call themselves", selfCallers, 1);
    }

    private int depthFrom(String method, List<String> chain) {
        int below = 0;
        chain.add(method);
        for (String target : calls.getOrDefault(method, Set.of())) {
            boolean around = chain.contains(target);
            check.holds("rule 8: a ring of calls " + chain + " to " + target, !around || target.equals(method));
            if (!around) below = Math.max(below, depthFrom(target, chain));
        }
        chain.remove(chain.size() - 1);
        return below + 1;
    }
}
