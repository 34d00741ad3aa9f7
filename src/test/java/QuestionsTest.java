import java.lang.reflect.Method;
import java.lang.reflect.Modifier;
import java.util.ArrayList;
import java.util.Comparator;
import java.util.List;
import java.util.Set;

/** A question changes nothing: behind any other one it is answered as on a new object. */
public final class QuestionsTest {
    private static final Set<String> CHANGES = Set.of("feed", "end", "garden", "say", "slug", "undo", "anew", "rate",
            "image", "back", "row", "write", "paste");
    private static final String TEXT = "garden hours 9 law 1 odds 5;row hard 1 hard 2 holds 1 hard 1 hard 1;"
            + "row hard 2 hard 1 hard 1 holds 2;say 1 to 0 at 0;say 2 to 3 at 0;say 1 to 5 at 4;slug to 2 at 6;";
    /** Arguments that most calls take: heads, hours, views, slots or seeds. */
    private static final int[][] ARGUMENTS = {{0, 1, 0, 0}, {1, 2, 1, 1}, {2, 1, 7, 0}, {6, 2, 2, 1}, {1, 3, 0, 2}};

    private final Check check = new Check();

    public static void main(String[] args) throws Exception {
        QuestionsTest test = new QuestionsTest();
        test.pairs();
        test.check.finish();
    }

    private static CabbageViews garden() {
        CabbageViews x = Check.planted(TEXT);
        x.say(2, 6, 3);
        for (int slot = 0; slot < 2; slot++) {
            x.row(slot, 0, 3);
            x.write(slot, 0, 4 + slot);
        }
        return x;
    }

    private static long ask(CabbageViews x, Method method, int[] arguments) throws Exception {
        Object[] first = new Object[method.getParameterCount()];
        for (int i = 0; i < first.length; i++) first[i] = arguments[i];
        return ((Number) method.invoke(x, first)).longValue();
    }

    private void pairs() throws Exception {
        List<Method> methods = new ArrayList<>();
        for (Method method : CabbageViews.class.getDeclaredMethods()) {
            if (Modifier.isPublic(method.getModifiers()) && !CHANGES.contains(method.getName())) methods.add(method);
        }
        methods.sort(Comparator.comparing(Method::getName));
        check.due("questions", methods.size(), 71 - CHANGES.size());
        for (Method ahead : methods) {
            for (int[] given : ARGUMENTS) {
                CabbageViews x = garden();
                for (Method behind : methods) {
                    ask(x, ahead, given);
                    int[] asked = ARGUMENTS[(behind.getName().length() + given[0]) % ARGUMENTS.length];
                    long got = ask(x, behind, asked);
                    check.due(behind.getName() + java.util.Arrays.toString(asked) + " behind " + ahead.getName()
                            + java.util.Arrays.toString(given), got, ask(garden(), behind, asked));
                }
            }
        }
    }
}
