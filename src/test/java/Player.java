import java.lang.reflect.InvocationTargetException;
import java.lang.reflect.Method;
import java.lang.reflect.Modifier;
import java.util.ArrayList;
import java.util.HashMap;
import java.util.List;
import java.util.Map;

/** A guide that is called by the names of its methods, and no oftener than the document allows. */
final class Player {
    private static final int MOST_CALLS = 512;
    private static final Map<String, Method> FACE = face();
    private static final String[] QUESTIONS = {"waypoints", "trails", "components", "componentsByMerging", "isTouring",
        "routeLength", "target", "hikerX", "hikerY", "drift", "isAlarm", "battery", "mode", "tolerance",
        "updatesLeft", "updatesLeftByCounting", "updates", "alarms", "reached", "alarmRate", "meanTrailLength",
        "isConsistent", "errorPosition", "failedCommand"};

    private final TrailGuide guide = new TrailGuide();
    private int calls;

    Player(List<Call> past) {
        past.forEach(this::answer);
    }

    private static Map<String, Method> face() {
        Map<String, Method> face = new HashMap<>();
        for (Method method : TrailGuide.class.getDeclaredMethods()) {
            if (Modifier.isPublic(method.getModifiers())) {
                face.put(method.getName(), method);
            }
        }
        return face;
    }

    static Map<String, Method> methods() {
        return FACE;
    }

    int calls() {
        return calls;
    }

    /** The answer as text: a value, or the simple name of what the call throws. */
    String answer(Call call) {
        calls++;
        if (calls > MOST_CALLS) {
            throw new IllegalStateException("the test calls an object oftener than " + MOST_CALLS + " times");
        }
        return Check.answerOf(() -> invoke(guide, FACE.get(call.name()), call));
    }

    static Object invoke(TrailGuide guide, Method method, Call call) {
        Object[] arguments = new Object[method.getParameterCount()];
        for (int i = 0; i < arguments.length; i++) {
            boolean isSign = method.getParameterTypes()[i] == char.class;
            arguments[i] = isSign ? (Object) (char) call.number(i) : (Object) call.number(i);
        }
        try {
            return method.invoke(guide, arguments);
        } catch (InvocationTargetException e) {
            if (e.getCause() instanceof RuntimeException cause) {
                throw cause;
            }
            throw new AssertionError(e.getCause());
        } catch (IllegalAccessException e) {
            throw new AssertionError(e);
        }
    }

    private String answer(String name, int... numbers) {
        return answer(new Call(name, numbers));
    }

    /** The output line, read sign by sign until there is none. */
    String line() {
        StringBuilder line = new StringBuilder();
        String sign = answer("charAt", 0);
        while (sign.length() == 1) {
            line.append(sign);
            sign = answer("charAt", line.length());
        }
        return line.toString();
    }

    /** All that questions tell of the state, a row each. */
    List<String> visible() {
        List<String> rows = new ArrayList<>();
        for (String name : QUESTIONS) {
            rows.add(name + ": " + answer(name));
        }
        int waypoints = Integer.parseInt(answer("waypoints"));
        for (int one = 0; one < waypoints; one++) {
            rows.add("waypoint " + one + ": " + answer("waypointX", one) + " " + answer("waypointY", one) + " "
                    + answer("radius", one));
            for (int other = 0; other < one; other++) {
                rows.add("trail " + other + "-" + one + ": " + answer("trailLength", other, one));
            }
        }
        String route = answer("routeLength");
        for (int i = 0; route.length() <= 2 && i < Integer.parseInt(route); i++) {
            rows.add("route " + i + ": " + answer("routeWaypoint", i));
        }
        rows.add("line: " + line());
        return rows;
    }
}
