import java.lang.reflect.Constructor;
import java.lang.reflect.Field;
import java.lang.reflect.Method;
import java.lang.reflect.Modifier;
import java.nio.file.Files;
import java.nio.file.Path;
import java.util.HashSet;
import java.util.List;
import java.util.Set;
import java.util.TreeSet;
import java.util.regex.Matcher;
import java.util.regex.Pattern;

/** The class has the document's face and no other, and keeps to the rules of its language. */
public final class FaceTest {
    private static final Path SOURCE = Path.of("src/main/java/CabbageViews.java");
    private static final Path DOCUMENT = Path.of("../shared/DOC.md");

    private final Check check = new Check();

    public static void main(String[] args) throws Exception {
        FaceTest test = new FaceTest();
        test.sameFace();
        test.membersOfTheClass();
        test.classesInside();
        test.wordsOfTheSource();
        test.lengthOfMethods();
        test.check.finish();
    }

    private void sameFace() throws Exception {
        Set<String> told = new TreeSet<>();
        Matcher m = Pattern.compile("public (int|long) (\\w+)\\(([^)]*)\\);").matcher(Files.readString(DOCUMENT));
        while (m.find()) {
            StringBuilder b = new StringBuilder(m.group(1) + " " + m.group(2));
            for (String p : m.group(3).isBlank() ? new String[0] : m.group(3).split(",")) {
                b.append(' ').append(p.trim().split(" ")[0]);
            }
            told.add(b.toString());
        }
        Set<String> found = new TreeSet<>();
        for (Method method : CabbageViews.class.getDeclaredMethods()) {
            if (Modifier.isPublic(method.getModifiers())) {
                StringBuilder b = new StringBuilder(method.getReturnType() + " " + method.getName());
                for (Class<?> p : method.getParameterTypes()) b.append(' ').append(p);
                found.add(b.toString());
            }
        }
        check.holds("the document's methods " + told + " are those of the class " + found, told.equals(found));
        check.due("so many methods", found.size(), 71);
        check.due("NONE", CabbageViews.NONE, -1);
    }

    private void membersOfTheClass() {
        int modifiers = CabbageViews.class.getModifiers();
        check.holds("public and final", Modifier.isPublic(modifiers) && Modifier.isFinal(modifiers));
        Constructor<?>[] made = CabbageViews.class.getDeclaredConstructors();
        check.holds("one constructor", made.length == 1 && Modifier.isPublic(made[0].getModifiers())
                && made[0].getParameterCount() == 0);
        Set<String> names = publicNames();
        for (Method method : CabbageViews.class.getDeclaredMethods()) {
            boolean open = Modifier.isPublic(method.getModifiers());
            check.holds(method + " is public or private", open || Modifier.isPrivate(method.getModifiers()));
            check.holds(method + " has a name of its own", open || !names.contains(method.getName()));
        }
        for (Field field : CabbageViews.class.getDeclaredFields()) {
            boolean open = Modifier.isPublic(field.getModifiers());
            check.holds(field + " is private", open == field.getName().equals("NONE")
                    && (open || Modifier.isPrivate(field.getModifiers())));
        }
    }

    private static Set<String> publicNames() {
        Set<String> names = new HashSet<>();
        for (Method method : CabbageViews.class.getDeclaredMethods()) {
            if (Modifier.isPublic(method.getModifiers())) names.add(method.getName());
        }
        return names;
    }

    private void classesInside() {
        Class<?>[] inside = CabbageViews.class.getDeclaredClasses();
        check.holds("at most twelve classes", inside.length + 1 <= 12);
        for (Class<?> c : inside) {
            check.holds(c + " is static", Modifier.isStatic(c.getModifiers()));
            check.holds(c + " is not public", !Modifier.isPublic(c.getModifiers()));
            int fields = 0;
            for (Field field : c.getDeclaredFields()) {
                boolean isStatic = Modifier.isStatic(field.getModifiers());
                fields += isStatic ? 0 : 1;
                check.holds(field + " is no changing state of all objects",
                        !isStatic || Modifier.isFinal(field.getModifiers()));
            }
            check.holds(c + " has some twenty fields at most: " + fields, fields <= 20);
            for (Method method : c.getDeclaredMethods()) {
                check.holds(method + " has a name of its own", !publicNames().contains(method.getName()));
                check.holds(method + " has seven parameters at most", method.getParameterCount() <= 7);
            }
        }
    }

    private void wordsOfTheSource() throws Exception {
        String source = Files.readString(SOURCE);
        String code = source.replaceAll("(?s)/\\*.*?\\*/", " ").replaceAll("//[^\n]*", " ");
        List<String> refused = List.of("throw", "throws", "try", "catch", "finally", "synchronized", "assert",
                "import", "package", "instanceof", "double", "float", "lambda", "goto", "native", "volatile");
        for (String word : refused) {
            check.holds("no " + word, !Pattern.compile("\\b" + word + "\\b").matcher(code).find());
        }
        check.holds("no lambda", !code.contains("->"));
        check.holds("no method reference", !code.contains("::"));
        check.holds("no annotation", !code.contains("@"));
        check.holds("plain signs alone", source.chars().allMatch(c -> c == '\n' || c >= 32 && c < 127));
        Set<String> library = new TreeSet<>();
        Matcher m = Pattern.compile("\\b(Math|Integer|Long|System|Arrays|String)\\.(\\w+)").matcher(code);
        while (m.find()) library.add(m.group(1) + "." + m.group(2));
        check.holds("the library that is listed: " + library, Set.of("Integer.bitCount", "Math.abs", "Math.max",
                "Math.min", "System.arraycopy").containsAll(library));
    }

    private void lengthOfMethods() throws Exception {
        List<String> lines = Files.readAllLines(SOURCE);
        int methods = 0;
        for (int i = 0; i < lines.size(); i++) {
            Matcher header = Pattern.compile("( {4}| {8})(?!if|for|while|switch)\\w.*\\) \\{").matcher(lines.get(i));
            if (header.matches()) {
                int length = lines.subList(i, lines.size()).indexOf(header.group(1) + "}") + 1;
                check.holds("sixty lines at most: " + lines.get(i), length > 0 && length <= 60);
                methods++;
            }
        }
        check.holds("methods were found", methods > 100);
    }
}
