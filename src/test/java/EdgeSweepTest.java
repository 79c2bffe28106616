import java.io.IOException;
import java.lang.reflect.Method;
import java.util.Arrays;
import java.util.List;
import java.util.Map;
import java.util.TreeMap;

/**
 * Makes every call of the face in every fixture with all arguments at and beside the edges of the ranges, and compares
 * the answer, and the state behind it, with the model.
 */
public final class EdgeSweepTest {
    private static final int[] EDGES = {Integer.MIN_VALUE, -1, 0, 1, 2, 3, 4, 5, 9, 10, 11, 12, 30, 31, 59, 60, 99, 100,
        999, 1000, Integer.MAX_VALUE};
    private static final int[] FEW_EDGES = {Integer.MIN_VALUE, -1, 0, 1, 5, 9, 10, 11, 12, 99, 100, Integer.MAX_VALUE};
    // So that the state can still be read within the calls that an object allows.
    private static final int MOST_CALLS = 300;

    private static final Check CHECK = new Check();

    private final String name;
    private final List<Call> past;
    private final List<String> before;
    private Player player;
    private Model model;
    private boolean isUsed = true;

    private EdgeSweepTest(String name, List<Call> past) {
        this.name = name;
        this.past = past;
        this.before = new Player(past).reader().visible();
    }

    public static void main(String[] args) throws IOException {
        Map<String, List<Row>> fixtures = Fixtures.read(Fixtures.folder(args[0]));
        for (String name : fixtures.keySet()) {
            EdgeSweepTest test = new EdgeSweepTest(name, fixtures.get(name).stream().map(Row::call).toList());
            for (Method method : new TreeMap<>(Player.methods()).values()) {
                test.sweep(method.getName(), method.getParameterCount());
            }
        }
        CHECK.finish();
    }

    private void sweep(String method, int arguments) {
        int[] edges = arguments == 3 ? FEW_EDGES : EDGES;
        int[] places = new int[arguments];
        int combinations = (int) Math.pow(edges.length, arguments);
        for (int number = 0; number < combinations; number++) {
            int rest = number;
            for (int i = 0; i < arguments; i++) {
                places[i] = edges[rest % edges.length];
                rest /= edges.length;
            }
            compare(new Call(method, Arrays.copyOf(places, arguments)));
        }
    }

    private void compare(Call call) {
        if (isUsed || player.calls() > MOST_CALLS) {
            player = new Player(past);
            model = modelBehind(past);
            isUsed = false;
        }
        String want = model.answer(call);
        String label = name + ": " + call;
        CHECK.due(label, want, () -> player.answer(call));
        if (want.endsWith("Exception") && !call.name().equals("run")) {
            CHECK.due(label + " changes nothing", before, () -> player.reader().visible());
        } else {
            CHECK.due(label + ", then", new Reader(model::answer).visible(), () -> player.reader().visible());
            isUsed = true;
        }
    }

    private static Model modelBehind(List<Call> past) {
        Model model = new Model();
        past.forEach(model::answer);
        return model;
    }
}
