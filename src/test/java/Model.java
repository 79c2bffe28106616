import java.util.ArrayDeque;
import java.util.ArrayList;
import java.util.Deque;
import java.util.HashSet;
import java.util.List;
import java.util.NoSuchElementException;
import java.util.Set;
import java.util.TreeMap;
import java.util.regex.Matcher;
import java.util.regex.Pattern;

/** The document once more, written in another way than the class: the answers to compare with. */
final class Model {
    private static final String NUMBER = "([0-9][0-9]?[0-9]?)";
    private static final String[] COMMANDS = {"point N,N,([0-9])", "trail N-N=N", "cut N-N", "tour N>N",
        "mode ([enf])", "limit N", "charge N", "move N,N", "stop"};
    private static final Pattern PROGRAM = programPattern();
    private static final int FAR = 1 << 20;

    private static final class State {
        List<int[]> points = new ArrayList<>();
        TreeMap<Integer, Integer> trails = new TreeMap<>();
        List<Integer> route;
        int target;
        int x;
        int y;
        boolean alarm;
        int battery = 1000;
        int mode = 1;
        int tolerance = 5;
        int updates;
        int alarms;
        int reached;

        State copy() {
            State s = new State();
            s.points.addAll(points);
            s.trails.putAll(trails);
            s.route = route;
            s.target = target;
            s.x = x;
            s.y = y;
            s.alarm = alarm;
            s.battery = battery;
            s.mode = mode;
            s.tolerance = tolerance;
            s.updates = updates;
            s.alarms = alarms;
            s.reached = reached;
            return s;
        }
    }

    private State now = new State();
    private State kept;
    private final Deque<State> past = new ArrayDeque<>();
    private String buffer = "";
    private String line = "";
    private Integer errorAt;
    private Integer failedAt;

    private static Pattern programPattern() {
        StringBuilder any = new StringBuilder();
        for (String command : COMMANDS) {
            any.append(any.length() == 0 ? "" : "|").append(command.replace("N", NUMBER));
        }
        return Pattern.compile("(?:" + any + ")(?:;(?:" + any + "))*");
    }

    /** The answer as text: a value, or the simple name of what the call throws. */
    String answer(Call call) {
        return Check.answerOf(() -> call(call.name(), call.number(0), call.number(1), call.number(2)));
    }

    /** Answers a call of the face by its name, with at most three arguments. */
    private Object call(String name, int a, int b, int c) {
        if (Set.of("addWaypoint", "addTrail", "removeTrail", "startTour", "stopTour", "update", "setTolerance",
                "setMode", "charge").contains(name)) {
            State before = now.copy();
            Object answer = change(name, a, b, c);
            remember(before);
            return answer;
        }
        switch (name) {
            case "type":
                state(buffer.length() < 60);
                buffer += (char) a;
                return buffer.length();
            case "run":
                return runText();
            case "errorPosition":
                element(errorAt != null);
                return errorAt;
            case "failedCommand":
                element(failedAt != null);
                return failedAt;
            case "undo":
                state(!past.isEmpty());
                now = past.removeLast();
                return past.size();
            case "save":
                kept = now.copy();
                return now.points.size();
            case "restore":
                state(kept != null);
                now = kept.copy();
                past.clear();
                return now.points.size();
            case "charAt":
                index(a, line.length());
                return line.charAt(a);
            case "writeRoute":
                line = now.route == null ? "" : routeText();
                return line.length();
            case "writeTrails":
                waypoint(a);
                line = trailsText(a);
                return line.length();
            default:
                return question(name, a, b);
        }
    }

    private void remember(State before) {
        past.addLast(before);
        if (past.size() > 8) {
            past.removeFirst();
        }
    }

    private static void argument(boolean good) {
        if (!good) {
            throw new IllegalArgumentException();
        }
    }

    private static void state(boolean good) {
        if (!good) {
            throw new IllegalStateException();
        }
    }

    private static void element(boolean good) {
        if (!good) {
            throw new NoSuchElementException();
        }
    }

    private static void index(int index, int size) {
        if (index < 0 || index >= size) {
            throw new IndexOutOfBoundsException();
        }
    }

    private void waypoint(int number) {
        index(number, now.points.size());
    }

    private static void place(int x, int y) {
        argument(x >= 0 && x < 100 && y >= 0 && y < 100);
    }

    private static int key(int one, int other) {
        return Math.min(one, other) * 100 + Math.max(one, other);
    }

    private Object change(String name, int a, int b, int c) {
        switch (name) {
            case "addWaypoint":
                place(a, b);
                argument(c > 0 && c < 10);
                state(now.points.size() < 12);
                now.points.add(new int[] {a, b, c});
                return now.points.size() - 1;
            case "addTrail":
                waypoint(a);
                waypoint(b);
                argument(a != b && c > 0 && c < 100);
                state(!now.trails.containsKey(key(a, b)));
                now.trails.put(key(a, b), c);
                return now.trails.size();
            case "removeTrail":
                waypoint(a);
                waypoint(b);
                element(now.trails.containsKey(key(a, b)));
                return now.trails.remove(key(a, b));
            case "startTour":
                return start(a, b);
            case "stopTour":
                state(now.route != null);
                int ahead = now.route.size() - now.target;
                end();
                return ahead;
            case "update":
                return move(a, b);
            case "setTolerance":
                argument(a >= 1 && a <= 30);
                int tolerance = now.tolerance;
                now.tolerance = a;
                return tolerance;
            case "setMode":
                argument(a >= 0 && a <= 2);
                int mode = now.mode;
                now.mode = a;
                return mode;
            default:
                argument(a >= 1 && a <= 999);
                now.battery = Math.min(1000, now.battery + a);
                return now.battery;
        }
    }

    private int[][] allDistances() {
        int n = now.points.size();
        int[][] far = new int[n][n];
        for (int i = 0; i < n; i++) {
            for (int j = 0; j < n; j++) {
                far[i][j] = i == j ? 0 : now.trails.getOrDefault(key(i, j), FAR);
            }
        }
        for (int k = 0; k < n; k++) {
            for (int i = 0; i < n; i++) {
                for (int j = 0; j < n; j++) {
                    far[i][j] = Math.min(far[i][j], far[i][k] + far[k][j]);
                }
            }
        }
        return far;
    }

    private int start(int from, int to) {
        waypoint(from);
        waypoint(to);
        argument(from != to);
        state(now.route == null);
        int[][] far = allDistances();
        element(far[from][to] < FAR);
        List<Integer> route = new ArrayList<>(List.of(from));
        for (int at = from; at != to;) {
            int next = 0;
            while (next == at || !now.trails.containsKey(key(at, next))
                    || now.trails.get(key(at, next)) + far[next][to] != far[at][to]) {
                next++;
            }
            route.add(next);
            at = next;
        }
        now.route = route;
        now.target = 1;
        now.x = now.points.get(from)[0];
        now.y = now.points.get(from)[1];
        return route.size();
    }

    private void end() {
        now.route = null;
        now.alarm = false;
    }

    private boolean near(int x, int y) {
        int[] p = now.points.get(now.route.get(now.target));
        return Math.pow(p[0] - x, 2) + Math.pow(p[1] - y, 2) <= p[2] * p[2];
    }

    /** The square of the drift, multiplied by the second number. */
    private long[] squareOfDrift(int x, int y) {
        int[] a = now.points.get(now.route.get(now.target - 1));
        int[] b = now.points.get(now.route.get(now.target));
        long toA = (long) Math.pow(x - a[0], 2) + (long) Math.pow(y - a[1], 2);
        long toB = (long) Math.pow(x - b[0], 2) + (long) Math.pow(y - b[1], 2);
        long leg = (long) Math.pow(b[0] - a[0], 2) + (long) Math.pow(b[1] - a[1], 2);
        // An obtuse angle at an end makes that end the nearest point.
        if (leg == 0 || toB >= toA + leg) {
            return new long[] {toA, 1};
        }
        if (toA >= toB + leg) {
            return new long[] {toB, 1};
        }
        long twiceAlong = toA + leg - toB;
        return new long[] {4 * toA * leg - twiceAlong * twiceAlong, 4 * leg};
    }

    private boolean tooFar(int x, int y) {
        long[] square = squareOfDrift(x, y);
        return square[0] > square[1] * now.tolerance * now.tolerance;
    }

    private void spend(int units) {
        now.battery = Math.max(0, now.battery - units);
    }

    private boolean move(int x, int y) {
        place(x, y);
        state(now.route != null);
        if (now.battery == 0) {
            throw new UnsupportedOperationException();
        }
        now.updates++;
        now.x = x;
        now.y = y;
        spend(1 << now.mode);
        boolean near = near(x, y);
        if (near) {
            spend(3);
            now.reached++;
            now.target++;
            if (now.target == now.route.size()) {
                end();
                return true;
            }
        }
        boolean tooFar = tooFar(x, y);
        if (tooFar && !now.alarm) {
            now.alarms++;
            spend(5);
        }
        now.alarm = tooFar;
        return near;
    }

    private char turnAt(int index) {
        int[] a = now.points.get(now.route.get(index - 1));
        int[] b = now.points.get(now.route.get(index));
        int[] c = now.points.get(now.route.get(index + 1));
        int p = (b[0] - a[0]) * (c[1] - b[1]) - (b[1] - a[1]) * (c[0] - b[0]);
        int q = (b[0] - a[0]) * (c[0] - b[0]) + (b[1] - a[1]) * (c[1] - b[1]);
        return p > 0 ? 'l' : p < 0 ? 'r' : q < 0 ? 'b' : 's';
    }

    private String routeText() {
        StringBuilder text = new StringBuilder();
        for (int i = 0; i < now.route.size(); i++) {
            text.append(i == 0 ? "" : " ").append(i == now.target ? "*" : "").append(now.route.get(i));
            if (i > 0 && i + 1 < now.route.size()) {
                text.append(turnAt(i));
            }
        }
        return text.toString();
    }

    private String trailsText(int waypoint) {
        StringBuilder text = new StringBuilder();
        for (int other = 0; other < 12; other++) {
            Integer length = now.trails.get(key(waypoint, other));
            text.append(length == null ? "" : "-" + other + "=" + length);
        }
        return text.toString();
    }

    private int runText() {
        String text = buffer;
        buffer = "";
        if (!PROGRAM.matcher(text).matches()) {
            int most = 0;
            for (int length = 0; length <= text.length(); length++) {
                Matcher start = PROGRAM.matcher(text.substring(0, length));
                if (start.matches() || start.hitEnd()) {
                    most = length;
                }
            }
            errorAt = most;
            throw new IllegalArgumentException();
        }
        State before = now.copy();
        String[] commands = text.split(";");
        for (int i = 0; i < commands.length; i++) {
            try {
                execute(commands[i]);
            } catch (RuntimeException e) {
                now = before;
                failedAt = i;
                throw new UnsupportedOperationException();
            }
        }
        remember(before);
        return commands.length;
    }

    private void execute(String command) {
        String[] words = command.split("[ ,=>-]");
        int[] n = new int[4];
        for (int i = 1; i < words.length; i++) {
            n[i] = words[0].equals("mode") ? "enf".indexOf(words[i]) : Integer.parseInt(words[i]);
        }
        String[] texts = {"point", "trail", "cut", "tour", "mode", "limit", "charge", "move", "stop"};
        String[] calls = {"addWaypoint", "addTrail", "removeTrail", "startTour", "setMode", "setTolerance", "charge",
            "update", "stopTour"};
        change(calls[List.of(texts).indexOf(words[0])], n[1], n[2], n[3]);
    }

    private int updatesLeft() {
        return (int) Math.ceil(now.battery / (double) (1 << now.mode));
    }

    private Object question(String name, int a, int b) {
        switch (name) {
            case "waypoints":
                return now.points.size();
            case "waypointX":
                waypoint(a);
                return now.points.get(a)[0];
            case "waypointY":
                waypoint(a);
                return now.points.get(a)[1];
            case "radius":
                waypoint(a);
                return now.points.get(a)[2];
            case "trails":
                return now.trails.size();
            case "hasTrail":
                waypoint(a);
                waypoint(b);
                return now.trails.containsKey(key(a, b));
            case "trailLength":
                waypoint(a);
                waypoint(b);
                element(now.trails.containsKey(key(a, b)));
                return now.trails.get(key(a, b));
            case "distance":
            case "distanceByRelaxation":
                waypoint(a);
                waypoint(b);
                int distance = allDistances()[a][b];
                element(distance < FAR);
                return distance;
            case "components":
            case "componentsByMerging":
                return components();
            case "nearest":
                place(a, b);
                element(!now.points.isEmpty());
                return nearestTo(a, b);
            case "battery":
                return now.battery;
            case "mode":
                return now.mode;
            case "tolerance":
                return now.tolerance;
            case "updatesLeft":
            case "updatesLeftByCounting":
                return updatesLeft();
            case "updates":
                return now.updates;
            case "alarms":
                return now.alarms;
            case "reached":
                return now.reached;
            case "isConsistent":
                return true;
            case "isTouring":
                return now.route != null;
            case "isAlarm":
                return now.alarm;
            case "alarmRate":
                if (now.updates == 0) {
                    throw new ArithmeticException();
                }
                return (float) now.alarms / (float) now.updates;
            case "meanTrailLength":
                if (now.trails.isEmpty()) {
                    throw new ArithmeticException();
                }
                return now.trails.values().stream().mapToInt(i -> i).average().getAsDouble();
            default:
                return tourQuestion(name, a, b);
        }
    }

    private int components() {
        int[][] far = allDistances();
        Set<Integer> firsts = new HashSet<>();
        for (int[] row : far) {
            int first = 0;
            while (row[first] >= FAR) {
                first++;
            }
            firsts.add(first);
        }
        return firsts.size();
    }

    private int nearestTo(int x, int y) {
        int best = 0;
        for (int i = 1; i < now.points.size(); i++) {
            int[] p = now.points.get(i);
            int[] q = now.points.get(best);
            if (Math.pow(p[0] - x, 2) + Math.pow(p[1] - y, 2) < Math.pow(q[0] - x, 2) + Math.pow(q[1] - y, 2)) {
                best = i;
            }
        }
        return best;
    }

    private Object tourQuestion(String name, int a, int b) {
        if (name.equals("forecast")) {
            place(a, b);
        }
        state(now.route != null);
        switch (name) {
            case "forecast":
                return near(a, b) ? 't' : tooFar(a, b) ? 'a' : 'q';
            case "routeLength":
                return now.route.size();
            case "routeWaypoint":
                index(a, now.route.size());
                return now.route.get(a);
            case "turn":
                index(a, now.route.size());
                element(a > 0 && a < now.route.size() - 1);
                return turnAt(a);
            case "target":
                return now.route.get(now.target);
            case "hikerX":
                return now.x;
            case "hikerY":
                return now.y;
            case "drift":
                long[] square = squareOfDrift(now.x, now.y);
                return (int) Math.floor(Math.sqrt((double) (square[0] / square[1])));
            default:
                throw new IllegalArgumentException("the model has no " + name);
        }
    }
}
