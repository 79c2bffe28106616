import java.io.IOException;
import java.nio.file.Files;
import java.nio.file.Path;
import java.util.ArrayList;
import java.util.List;
import java.util.Map;
import java.util.Set;
import java.util.TreeMap;
import java.util.TreeSet;
import java.util.stream.Stream;

/**
 * Plays the files under src/test/boundaries, in which rows of calls stand below each sentence of the document, and
 * tests that no sentence lacks its rows. README.md tells the form of the files.
 */
public final class BoundaryTest {
    private static final Check CHECK = new Check();

    private final Map<String, List<Row>> fixtures;
    private final Map<String, Set<String>> quoted = new TreeMap<>();
    private final Sentences document;
    private String heading = "";
    private String place = "";
    private boolean hasRows = true;

    private List<Call> past = new ArrayList<>();
    private Player player = new Player(past);
    private Model model = new Model();
    private List<String> whole;

    private BoundaryTest(Map<String, List<Row>> fixtures, Sentences document) {
        this.fixtures = fixtures;
        this.document = document;
    }

    public static void main(String[] args) throws IOException {
        Path folder = Fixtures.folder(args[0]);
        BoundaryTest test = new BoundaryTest(Fixtures.read(folder), new Sentences(Path.of(args[1]).resolve("DOC.md")));
        test.fixtures.keySet().forEach(test::begin);
        try (Stream<Path> files = Files.list(folder)) {
            for (Path file : files.sorted().toList()) {
                if (!file.endsWith(Fixtures.FILE)) {
                    test.play(file);
                }
            }
        }
        test.everySentenceIsQuoted();
        CHECK.finish();
    }

    private void everySentenceIsQuoted() {
        CHECK.due("what it is, terms and promises", 55, () -> document.headings().size());
        for (String section : document.headings()) {
            Set<String> missing = new TreeSet<>(document.of(section));
            missing.removeAll(quoted.getOrDefault(section, Set.of()));
            CHECK.due("sentences without a test in " + section, Set.of(), () -> missing);
        }
    }

    private void play(Path file) throws IOException {
        List<String> rows = Files.readAllLines(file);
        for (int i = 0; i < rows.size(); i++) {
            place = file.getFileName() + ":" + (i + 1);
            try {
                playLine(rows.get(i));
            } catch (IllegalArgumentException e) {
                CHECK.due(place, "a row", () -> e.getMessage());
            }
        }
        endSentence();
    }

    private void playLine(String text) {
        if (text.isEmpty() || text.startsWith("//")) {
            return;
        }
        if (text.startsWith("# ")) {
            endSentence();
            heading = text.substring(2);
        } else if (text.startsWith("> ")) {
            endSentence();
            quote(text.substring(2));
        } else if (text.equals("no boundary")) {
            CHECK.due(place + " a promise may not lack a boundary", true, () -> Sentences.isGeneral(heading));
            hasRows = true;
        } else if (text.equals("new") || text.startsWith("new ")) {
            begin(text.substring(3).strip());
        } else {
            Row.of(text).forEach(this::test);
            hasRows = true;
        }
    }

    private void quote(String sentence) {
        CHECK.due(place + " a sentence of " + heading, true, () -> document.of(heading).contains(sentence));
        quoted.computeIfAbsent(heading, h -> new TreeSet<>()).add(sentence);
        hasRows = false;
    }

    private void endSentence() {
        CHECK.due(place + " the sentence above has rows", true, () -> hasRows);
        hasRows = true;
    }

    private void begin(String fixture) {
        past = new ArrayList<>();
        player = new Player(past);
        model = new Model();
        whole = null;
        for (Row row : fixtures.get(fixture)) {
            compare(row, "fixture " + fixture);
            keep(row);
        }
    }

    private void test(Row row) {
        boolean isThrown = row.kind() == Row.Kind.THROWS;
        if (isThrown && row.call().name().equals("run")) {
            changesOnlyTheBuffer(row);
        } else if (isThrown || row.kind() == Row.Kind.ANSWERS_ONLY) {
            changesNothing(row.call());
        }
        compare(row, place);
        // What changes nothing need not be called again to come to the same state.
        if (!isThrown && row.kind() != Row.Kind.ANSWERS_ONLY || row.call().name().equals("run")) {
            keep(row);
        }
    }

    private void keep(Row row) {
        if (row.kind() != Row.Kind.LINE) {
            past.add(row.call());
            whole = null;
        }
    }

    private void compare(Row row, String where) {
        if (row.kind() == Row.Kind.LINE) {
            CHECK.due(where + " line", row.want(), () -> player.reader().line());
            return;
        }
        Call call = row.call();
        String answer = player.answer(call);
        CHECK.due(where + " " + call + " in the model", answer, () -> model.answer(call));
        if (row.kind() == Row.Kind.DONE) {
            CHECK.due(where + " " + call + " is refused", false, () -> answer.endsWith("Exception"));
        } else {
            CHECK.due(where + " " + call, row.want(), () -> answer);
        }
    }

    private List<Call> with(Call call) {
        List<Call> longer = new ArrayList<>(past);
        longer.add(call);
        return longer;
    }

    private void changesNothing(Call call) {
        Player one = new Player(past);
        List<String> before = one.reader().visible();
        one.answer(call);
        same(call, before, one.reader().visible());
        if (whole == null) {
            whole = Whole.behind(past);
        }
        same(call, whole, Whole.behind(with(call)));
    }

    private void changesOnlyTheBuffer(Row row) {
        Call call = row.call();
        String recorded = row.want().equals("IllegalArgumentException") ? "errorPosition: " : "failedCommand: ";
        same(call, without(recorded, Whole.withoutBuffer(past)), without(recorded, Whole.withoutBuffer(with(call))));
        CHECK.due(place + " the buffer is empty", 1, () -> new Player(with(call)).answer(Call.of("type('x')")));
    }

    private static List<String> without(String name, List<String> rows) {
        return rows.stream().filter(row -> !row.contains(name)).toList();
    }

    private void same(Call call, List<String> before, List<String> after) {
        CHECK.due(place + " " + call + " leaves so many rows", before.size(), () -> after.size());
        for (int i = 0; i < Math.min(before.size(), after.size()); i++) {
            String row = after.get(i);
            CHECK.due(place + " " + call + " leaves", before.get(i), () -> row);
        }
    }
}
