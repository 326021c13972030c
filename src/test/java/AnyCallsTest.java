import java.lang.reflect.Method;
import java.util.ArrayList;
import java.util.Comparator;
import java.util.List;
import java.util.Random;

/**
 * Calls with any arguments in any state never throw, answer alike on two books, and change nothing if refused.
 * The looks at a book in between make its calls more than 512; that they still hold then is this program's own.
 */
public final class AnyCallsTest {
    private static final int[] EDGES = {
        Integer.MIN_VALUE, -2, -1, 0, 1, 2, 5, 6, 11, 12, 13, 15, 16, 17, 20, 24, 62, 64, 100, 101,
        500, 501, 1000, 1001, 30000, 30001, 65535, 65536, Integer.MAX_VALUE - 1, Integer.MAX_VALUE,
    };

    public static void main(String[] args) throws Exception {
        List<Method> calls = calls();
        for (int seed = 0; seed < 400; seed++) {
            run(calls, new Random(seed));
        }
        Due.end("AnyCallsTest");
    }

    private static List<Method> calls() {
        List<Method> calls = new ArrayList<>();
        for (Method m : SocietyBook.class.getDeclaredMethods()) {
            if (java.lang.reflect.Modifier.isPublic(m.getModifiers())) {
                calls.add(m);
            }
        }
        calls.sort(Comparator.comparing(Method::getName));
        return calls;
    }

    private static void run(List<Method> calls, Random random) throws Exception {
        SocietyBook one = new SocietyBook();
        SocietyBook two = new SocietyBook();
        for (int i = 0; i < 512; i++) {
            Method call = calls.get(random.nextInt(calls.size()));
            Object[] arguments = arguments(call, random);
            String before = state(one);
            long answer = ((Number) call.invoke(one, arguments)).longValue();
            long again = ((Number) call.invoke(two, arguments)).longValue();
            Due.is(call.getName() + " on a book alike", again, answer);
            boolean refused = !call.getName().equals("digest") && answer <= -1 && answer >= -4;
            if (refused) {
                Due.isTrue(call.getName() + " refused changes nothing", before.equals(state(one)));
            }
        }
        Due.isTrue("two books alike", state(one).equals(state(two)));
    }

    private static Object[] arguments(Method call, Random random) {
        Class<?>[] types = call.getParameterTypes();
        Object[] arguments = new Object[types.length];
        for (int i = 0; i < types.length; i++) {
            arguments[i] = types[i] == boolean.class ? (Object) random.nextBoolean() : (Object) number(call, random);
        }
        return arguments;
    }

    private static int number(Method call, Random random) {
        int kind = random.nextInt(20);
        if (kind == 0) {
            return EDGES[random.nextInt(EDGES.length)];
        }
        if (kind == 1) {
            return random.nextInt();
        }
        return random.nextInt(kind < 8 ? 3 : kind < 16 ? 7 : call.getName().equals("later") ? 40 : 120);
    }

    /** All that can be told of a book without changing it; asked() last of all. */
    private static String state(SocietyBook b) {
        StringBuilder all = new StringBuilder();
        all.append(b.digest()).append(' ').append(b.lacks());
        for (int i = 0; i < 16; i++) {
            for (int m = 0; m < 4; m++) {
                all.append(' ').append(b.medals(m, i));
            }
        }
        for (int paper = 0; paper < b.count(2); paper++) {
            for (int what = 0; what < 3; what++) {
                all.append(' ').append(b.known(paper, what, b.count(0) / 2));
            }
            for (int statute = 0; statute < b.count(4); statute++) {
                all.append(' ').append(b.when(paper, statute, b.count(0), true));
            }
        }
        all.append(' ').append(b.force(b.count(0))).append(' ').append(b.asked());
        return all.toString();
    }
}
