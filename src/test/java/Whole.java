import java.util.ArrayList;
import java.util.List;

/**
 * The whole state behind some calls: what questions tell, and what only other calls bring to light. As these change the
 * state, each of them gets an object of its own, which is brought there by the same calls.
 */
final class Whole {
    private static final int MOST_UNDONE = 8;

    private Whole() {
    }

    static List<String> behind(List<Call> past) {
        List<String> rows = new ArrayList<>(withoutBuffer(past));
        Player runner = new Player(past);
        rows.add("type: " + runner.answer(Call.of("type('e')")));
        rows.add("run: " + runner.answer(Call.of("run()")));
        addAll(rows, "run, ", runner.reader().visible());
        Player running = new Player(past);
        rows.add("run at once: " + running.answer(Call.of("run()")));
        addAll(rows, "run at once, ", running.reader().visible());
        return rows;
    }

    static List<String> withoutBuffer(List<Call> past) {
        List<String> rows = new ArrayList<>(new Player(past).reader().visible());
        for (int undone = 1; undone <= MOST_UNDONE + 1; undone++) {
            Player player = new Player(past);
            String answer = "";
            for (int i = 0; i < undone; i++) {
                answer = player.answer(Call.of("undo()"));
            }
            rows.add("undo " + undone + ": " + answer);
            addAll(rows, "undo " + undone + ", ", player.reader().visible());
        }
        Player player = new Player(past);
        rows.add("restore: " + player.answer(Call.of("restore()")));
        addAll(rows, "restore, ", player.reader().visible());
        return rows;
    }

    private static void addAll(List<String> rows, String before, List<String> more) {
        more.forEach(row -> rows.add(before + row));
    }
}
