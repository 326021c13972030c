import java.lang.reflect.InvocationTargetException;
import java.lang.reflect.Method;
import java.lang.reflect.Modifier;
import java.util.Map;
import java.util.TreeMap;

/** A new book that is called by texts such as "note(0, 1, 50)"; MIN and MAX stand for the least and the greatest int. */
final class Calls {
    static final int MOST_CALLS = 512;
    private static final Map<String, Method> FACE = face(SocietyBook.class);
    private static final Map<String, Method> PLAIN_FACE = face(PlainBook.class);

    private final Object book;
    private final Map<String, Method> face;
    private int made = 0;

    Calls() {
        this(new SocietyBook(), FACE);
    }

    private Calls(Object book, Map<String, Method> face) {
        this.book = book;
        this.face = face;
    }

    static Calls ofPlainBook() {
        return new Calls(new PlainBook(), PLAIN_FACE);
    }

    static Map<String, Method> face(Class<?> of) {
        Map<String, Method> face = new TreeMap<>();
        for (Method method : of.getDeclaredMethods()) {
            if (Modifier.isPublic(method.getModifiers())) {
                face.put(method.getName(), method);
            }
        }
        return face;
    }

    long answer(String call) {
        int bracket = call.indexOf('(');
        Method method = face.get(call.substring(0, bracket));
        String inside = call.substring(bracket + 1, call.lastIndexOf(')')).trim();
        String[] texts = inside.isEmpty() ? new String[0] : inside.split("\\s*,\\s*");
        Object[] arguments = new Object[texts.length];
        for (int i = 0; i < texts.length; i++) {
            arguments[i] = argument(texts[i]);
        }
        return answer(method, arguments);
    }

    /** The document promises nothing of a book after its 512th call, so no test looks there. */
    private long answer(Method method, Object[] arguments) {
        made++;
        Due.isTrue("a test with " + MOST_CALLS + " calls of one book at most", made <= MOST_CALLS);
        try {
            return ((Number) method.invoke(book, arguments)).longValue();
        } catch (InvocationTargetException thrown) {
            Due.isTrue(method.getName() + " never throws, but it threw " + thrown.getCause() + ": that", false);
            return Long.MIN_VALUE;
        } catch (IllegalAccessException hidden) {
            throw new IllegalStateException(hidden);
        }
    }

    private static Object argument(String text) {
        switch (text) {
            case "true": return true;
            case "false": return false;
            case "MIN": return Integer.MIN_VALUE;
            case "MAX": return Integer.MAX_VALUE;
            default: return Integer.parseInt(text);
        }
    }
}
