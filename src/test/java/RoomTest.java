import java.lang.management.ManagementFactory;
import java.lang.reflect.Method;
import java.lang.reflect.Modifier;
import java.util.ArrayList;
import java.util.Comparator;
import java.util.List;
import java.util.Random;

/** No call throws whatever its arguments are, none makes objects, and a new object is small. */
public final class RoomTest {
    private static final String LARGE = "garden hours 16 law 3 odds 5;row hard 3 hard 3 holds 1 hard 3 holds 11 hard 2"
            + " hard 1 hard 2 holds 7;row hard 1 hard 2 hard 2 hard 1 hard 3 holds 3 hard 1;"
            + "say 1 to 9 at 1;say 1 to 4 at 0;say 1 to 7 at 1;";

    private final Check check = new Check();
    private final com.sun.management.ThreadMXBean threads =
            (com.sun.management.ThreadMXBean) ManagementFactory.getThreadMXBean();

    public static void main(String[] args) throws Exception {
        RoomTest test = new RoomTest();
        test.anyArguments();
        test.roomOfCalls();
        test.check.finish();
    }

    private void anyArguments() throws Exception {
        Random random = new Random(7);
        List<Method> methods = new ArrayList<>();
        for (Method method : CabbageViews.class.getDeclaredMethods()) {
            if (Modifier.isPublic(method.getModifiers())) methods.add(method);
        }
        methods.sort(Comparator.comparing(Method::getName));
        for (int object = 0; object < 60; object++) {
            CabbageViews x = object % 5 == 0 ? new CabbageViews() : Check.planted(LARGE);
            for (int call = 0; call < 512; call++) {
                Method method = methods.get(random.nextInt(methods.size()));
                Object[] arguments = new Object[method.getParameterCount()];
                StringBuilder told = new StringBuilder(method.getName());
                for (int i = 0; i < arguments.length; i++) {
                    int n = any(random);
                    arguments[i] = method.getParameterTypes()[i] == long.class ? (Object) (long) n : (Object) n;
                    told.append(' ').append(n);
                }
                try {
                    method.invoke(x, arguments);
                    check.holds(told.toString(), true);
                } catch (java.lang.reflect.InvocationTargetException e) {
                    check.holds(told + " threw " + e.getCause(), false);
                }
            }
        }
    }

    private static int any(Random random) {
        int[] edges = {Integer.MIN_VALUE, Integer.MAX_VALUE, -1, 12, 16, 17, 31, 32, 60, 61, 600, 4096, 2000000000};
        int kind = random.nextInt(10);
        if (kind == 0) return random.nextInt();
        return kind < 3 ? edges[random.nextInt(edges.length)] : random.nextInt(kind < 8 ? 4 : 17);
    }

    private long bytes() {
        return threads.getThreadAllocatedBytes(Thread.currentThread().getId());
    }

    private void roomOfCalls() {
        goThrough(Check.planted(LARGE));
        CabbageViews x = Check.planted(LARGE);
        Check.put(x, LARGE);
        long before = bytes();
        x.garden();
        goThrough(x);
        long made = bytes() - before;
        check.holds("calls make nothing, but there were " + made + " bytes", made < 4096);
        before = bytes();
        x = new CabbageViews();
        made = bytes() - before;
        check.holds("a new object is small, but has " + made + " bytes", made < 40000);
        check.due("a new object", x.count(8), 0);
    }

    private static void goThrough(CabbageViews x) {
        x.row(0, 0, 0);
        x.row(1, 0, 0);
        for (int i = 0; i < 10; i++) {
            x.say(1 + i % 2, i, i);
            x.fewest(1);
            x.tell(2);
            x.worth();
            x.replies(i);
            x.share(0, 1, 0);
            x.sample(5, 5, 0);
            x.chance(3, 1, 7, 0);
            x.mean(7, 1);
            x.luck(i, 20, 3, 1);
            x.ask(0, 1);
            x.laws(0);
            x.rests(0, i + 1);
            x.settles();
            x.firm(1);
            x.image(i % 3);
            x.back(i % 3);
            x.paste(0, 0, 1, 0, 0);
        }
    }
}
