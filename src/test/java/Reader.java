import java.util.ArrayList;
import java.util.List;
import java.util.function.Function;

/** Reads what questions tell of a guide; the guide is whatever answers calls. */
final class Reader {
    private static final String[] QUESTIONS = {"waypoints", "trails", "components", "componentsByMerging", "isTouring",
        "routeLength", "target", "hikerX", "hikerY", "drift", "isAlarm", "battery", "mode", "tolerance",
        "updatesLeft", "updatesLeftByCounting", "updates", "alarms", "reached", "alarmRate", "meanTrailLength",
        "isConsistent", "errorPosition", "failedCommand"};

    private final Function<Call, String> guide;

    Reader(Function<Call, String> guide) {
        this.guide = guide;
    }

    private String answer(String name, int... numbers) {
        return guide.apply(new Call(name, numbers));
    }

    /** The output line, read sign by sign until there is none. */
    String line() {
        StringBuilder line = new StringBuilder();
        String sign = answer("charAt", 0);
        while (sign.length() == 1) {
            line.append(sign);
            sign = answer("charAt", line.length());
        }
        return line.toString();
    }

    /** All that questions tell of the state, a row each. */
    List<String> visible() {
        List<String> rows = new ArrayList<>();
        for (String name : QUESTIONS) {
            rows.add(name + ": " + answer(name));
        }
        int waypoints = Integer.parseInt(answer("waypoints"));
        for (int one = 0; one < waypoints; one++) {
            rows.add("waypoint " + one + ": " + answer("waypointX", one) + " " + answer("waypointY", one) + " "
                    + answer("radius", one));
            for (int other = 0; other < one; other++) {
                rows.add("trail " + other + "-" + one + ": " + answer("trailLength", other, one));
            }
        }
        String route = answer("routeLength");
        for (int i = 0; route.length() <= 2 && i < Integer.parseInt(route); i++) {
            rows.add("route " + i + ": " + answer("routeWaypoint", i));
        }
        rows.add("line: " + line());
        return rows;
    }
}
