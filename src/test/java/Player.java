import java.lang.reflect.InvocationTargetException;
import java.lang.reflect.Method;
import java.lang.reflect.Modifier;
import java.util.HashMap;
import java.util.List;
import java.util.Map;

/** A guide that is called by the names of its methods, and no oftener than the document allows. */
final class Player {
    private static final int MOST_CALLS = 512;
    private static final Map<String, Method> FACE = face();

    private final TrailGuide guide = new TrailGuide();
    private int calls;

    Player(List<Call> past) {
        past.forEach(this::answer);
    }

    private static Map<String, Method> face() {
        Map<String, Method> face = new HashMap<>();
        for (Method method : TrailGuide.class.getDeclaredMethods()) {
            if (Modifier.isPublic(method.getModifiers())) {
                face.put(method.getName(), method);
            }
        }
        return face;
    }

    static Map<String, Method> methods() {
        return FACE;
    }

    int calls() {
        return calls;
    }

    /** The answer as text: a value, or the simple name of what the call throws. */
    String answer(Call call) {
        calls++;
        if (calls > MOST_CALLS) {
            throw new IllegalStateException("the test calls an object oftener than " + MOST_CALLS + " times");
        }
        return Check.answerOf(() -> invoke(guide, FACE.get(call.name()), call));
    }

    static Object invoke(TrailGuide guide, Method method, Call call) {
        Object[] arguments = new Object[method.getParameterCount()];
        for (int i = 0; i < arguments.length; i++) {
            boolean isSign = method.getParameterTypes()[i] == char.class;
            arguments[i] = isSign ? (Object) (char) call.number(i) : (Object) call.number(i);
        }
        try {
            return method.invoke(guide, arguments);
        } catch (InvocationTargetException e) {
            if (e.getCause() instanceof RuntimeException cause) {
                throw cause;
            }
            throw new AssertionError(e.getCause());
        } catch (IllegalAccessException e) {
            throw new AssertionError(e);
        }
    }

    Reader reader() {
        return new Reader(this::answer);
    }
}
