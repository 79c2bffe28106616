import java.lang.reflect.Method;
import java.util.Arrays;
import java.util.Comparator;

/** Long runs of calls, always the same ones, on the class and on the model; every answer is compared. */
public final class ModelTest {
    private static final int RUNS = 1500;
    private static final int CALLS = 512;
    private static final String[] CHANGES = {"addWaypoint", "addWaypoint", "addTrail", "addTrail", "addTrail",
        "removeTrail", "startTour", "startTour", "stopTour", "update", "update", "update", "update", "update",
        "setTolerance", "setMode", "charge", "undo", "save", "restore"};
    private static final String[] PIECES = {"point ", "trail ", "cut ", "tour ", "mode ", "limit ", "charge ", "move ",
        "stop", "stop", "e", "n", "f", ";", ";", ",", "-", "=", ">", "0", "1", "2", "9", "12", "99", " "};

    private static final Check CHECK = new Check();
    private static long seed = 20261119;

    private static int below(int bound) {
        seed = seed * 6364136223846793005L + 1442695040888963407L;
        return (int) ((seed >>> 33) % bound);
    }

    public static void main(String[] args) {
        Method[] methods = TrailGuide.class.getDeclaredMethods();
        Method[] face = Arrays.stream(methods).filter(m -> java.lang.reflect.Modifier.isPublic(m.getModifiers()))
                .sorted(Comparator.comparing(Method::getName)).toArray(Method[]::new);
        for (int run = 0; run < RUNS; run++) {
            compareRun(run, face);
        }
        CHECK.finish();
    }

    private static void compareRun(int run, Method[] face) {
        TrailGuide guide = new TrailGuide();
        Model model = new Model();
        int changeShare = 1 + below(9);
        int calls = 0;
        while (calls < CALLS) {
            if (below(20) == 0) {
                String text = below(2) == 0 ? goodText() : anyText();
                for (int i = 0; i < text.length() && calls < CALLS; i++) {
                    compare(run, guide, model, method(face, "type"), text.charAt(i), 0, 0);
                    calls++;
                }
                // What an object answers behind its last call is free.
                if (calls < CALLS) {
                    compare(run, guide, model, method(face, "run"), 0, 0, 0);
                }
            } else if (below(10) < changeShare) {
                compareCall(run, guide, model, method(face, CHANGES[below(CHANGES.length)]));
            } else {
                compareCall(run, guide, model, face[below(face.length)]);
            }
            calls++;
        }
    }

    private static Method method(Method[] face, String name) {
        return Arrays.stream(face).filter(m -> m.getName().equals(name)).findAny().get();
    }

    private static void compareCall(int run, TrailGuide guide, Model model, Method method) {
        int[] n = new int[3];
        for (int i = 0; i < 3; i++) {
            n[i] = argumentFor(method.getName(), i);
        }
        compare(run, guide, model, method, n[0], n[1], n[2]);
    }

    private static int argumentFor(String name, int place) {
        if (below(60) == 0) {
            return below(2) == 0 ? Integer.MIN_VALUE + below(3) : Integer.MAX_VALUE - below(3);
        }
        switch (name) {
            case "addWaypoint":
                return place == 2 ? below(11) : below(40) == 0 ? below(103) - 2 : below(4) * 10;
            case "update":
            case "forecast":
            case "nearest":
                return below(40) == 0 ? below(103) - 2 : below(3) == 0 ? below(100) : below(40);
            case "addTrail":
                return place == 2 ? below(20) == 0 ? below(102) : below(5) : below(8);
            case "setTolerance":
                return below(6) == 0 ? below(33) : below(9);
            case "setMode":
                return below(5) - 1;
            case "charge":
                return below(1003) - 1;
            case "charAt":
                return below(20) - 1;
            case "type":
                return below(3) == 0 ? below(65536) : PIECES[below(PIECES.length)].charAt(0);
            default:
                return below(20) == 0 ? below(16) - 2 : below(7);
        }
    }

    private static String goodText() {
        StringBuilder text = new StringBuilder();
        int commands = 1 + below(3);
        for (int i = 0; i < commands; i++) {
            text.append(i == 0 ? "" : ";").append(goodCommand());
        }
        return text.toString();
    }

    private static String goodCommand() {
        switch (below(9)) {
            case 0:
                return "point " + below(40) + "," + below(40) + "," + below(10);
            case 1:
                return "trail " + below(6) + "-" + below(6) + "=" + below(5);
            case 2:
                return "cut " + below(6) + "-" + below(6);
            case 3:
                return "tour " + below(6) + ">0" + below(6);
            case 4:
                return "mode " + "enf".charAt(below(3));
            case 5:
                return "limit " + below(32);
            case 6:
                return "charge " + below(1000);
            case 7:
                return "move " + below(40) + "," + below(40);
            default:
                return "stop";
        }
    }

    private static String anyText() {
        StringBuilder text = new StringBuilder(below(3) == 0 ? "" : goodText());
        int pieces = below(7);
        for (int i = 0; i < pieces; i++) {
            text.append(PIECES[below(PIECES.length)]);
        }
        if (text.length() > 0 && below(3) == 0) {
            text.setCharAt(below(text.length()), PIECES[below(PIECES.length)].charAt(0));
        }
        return text.toString();
    }

    private static void compare(int run, TrailGuide guide, Model model, Method method, int a, int b, int c) {
        Call call = new Call(method.getName(), a, b, c);
        String want = model.answer(call);
        CHECK.due("run " + run + ": " + call, want, () -> Player.invoke(guide, method, call));
    }
}
