import java.io.IOException;
import java.nio.file.Files;
import java.nio.file.Path;
import java.util.ArrayList;
import java.util.List;
import java.util.Map;
import java.util.Set;
import java.util.TreeMap;
import java.util.TreeSet;
import java.util.regex.Matcher;
import java.util.regex.Pattern;
import java.util.stream.Stream;

/**
 * Plays the files under src/test/boundaries, in which rows of calls stand below each sentence of the document (README.md
 * tells their form), and tests that no sentence lacks its rows.
 */
public final class BoundaryTest {
    private static final Pattern ROW = Pattern.compile("(\\w+\\(.*?\\))(?: (==|=|!) (.*))?");
    private static final Pattern REPEATED = Pattern.compile("repeat (\\d+) (.*)");
    private static final Pattern COUNTER = Pattern.compile("#(?:([+*])(\\d+))?");

    private static final Check CHECK = new Check();

    private final Map<String, List<String>> fixtures;
    private final Map<String, Set<String>> quoted = new TreeMap<>();
    private final Sentences document;
    private String heading = "";
    private String place = "";
    private boolean hasRows = true;

    private List<Call> past = new ArrayList<>();
    private Player player = new Player(past);
    private Model model = new Model();
    private List<String> unchanged;

    private BoundaryTest(Map<String, List<String>> fixtures, Sentences document) {
        this.fixtures = fixtures;
        this.document = document;
    }

    public static void main(String[] args) throws IOException {
        Path folder = Path.of(args[0]).resolve("src/test/boundaries");
        BoundaryTest test = new BoundaryTest(Fixtures.read(folder), new Sentences(Path.of(args[1]).resolve("DOC.md")));
        for (String name : test.fixtures.keySet()) {
            test.place = "fixture " + name;
            test.begin(name);
        }
        try (Stream<Path> files = Files.list(folder)) {
            for (Path file : files.sorted().toList()) {
                if (!file.endsWith(Fixtures.FILE)) {
                    test.play(file);
                }
            }
        }
        test.everySentenceIsQuoted();
        CHECK.finish();
    }

    private void everySentenceIsQuoted() {
        CHECK.due("terms and promises", 54, () -> document.headings().size());
        for (String section : document.headings()) {
            Set<String> missing = new TreeSet<>(document.of(section));
            missing.removeAll(quoted.getOrDefault(section, Set.of()));
            CHECK.due("sentences without a test in " + section, Set.of(), () -> missing);
        }
    }

    private void play(Path file) throws IOException {
        List<String> rows = Files.readAllLines(file);
        for (int i = 0; i < rows.size(); i++) {
            place = file.getFileName() + ":" + (i + 1);
            try {
                playRow(rows.get(i));
            } catch (RuntimeException e) {
                CHECK.due(place + " " + rows.get(i), "a row that can be played", () -> e);
            }
        }
        endSentence();
    }

    private void playRow(String row) {
        if (row.isEmpty() || row.startsWith("//")) {
            return;
        }
        if (row.startsWith("# ")) {
            endSentence();
            heading = row.substring(2);
        } else if (row.startsWith("> ")) {
            endSentence();
            quote(row.substring(2));
        } else if (row.equals("no boundary")) {
            CHECK.due(place + " only a term may lack a boundary", "Terms", () -> heading);
            hasRows = true;
        } else if (row.equals("new") || row.startsWith("new ")) {
            begin(row.substring(3).strip());
        } else {
            hasRows = true;
            playCalls(row);
        }
    }

    private void endSentence() {
        CHECK.due(place + " the sentence above has rows", true, () -> hasRows);
        hasRows = true;
    }

    private void quote(String sentence) {
        CHECK.due(place + " a sentence of " + heading, true, () -> document.of(heading).contains(sentence));
        quoted.computeIfAbsent(heading, h -> new TreeSet<>()).add(sentence);
        hasRows = false;
    }

    private void begin(String fixture) {
        past = new ArrayList<>();
        player = new Player(past);
        model = new Model();
        unchanged = null;
        if (!fixture.isEmpty()) {
            fixtures.get(fixture).forEach(row -> playEach(row, false));
        }
    }

    private void playCalls(String row) {
        playEach(row, true);
    }

    private void playEach(String row, boolean isTested) {
        Matcher repeated = REPEATED.matcher(row);
        int times = repeated.matches() ? Integer.parseInt(repeated.group(1)) : 1;
        String text = repeated.matches() ? repeated.group(2) : row;
        for (int i = 0; i < times; i++) {
            int counter = i;
            playOne(repeated.matches() ? COUNTER.matcher(text).replaceAll(m -> valueOf(m, counter)) : text, isTested);
        }
    }

    private static String valueOf(java.util.regex.MatchResult found, int counter) {
        int by = found.group(2) == null ? 0 : Integer.parseInt(found.group(2));
        return String.valueOf("*".equals(found.group(1)) ? counter * by : counter + by);
    }

    private void playOne(String row, boolean isTested) {
        if (row.startsWith("text ")) {
            typeText(Call.withSigns(row.substring(6, row.length() - 1)));
            return;
        }
        if (row.startsWith("line = ")) {
            String want = row.substring(7);
            CHECK.due(place + " line", want, () -> "\"" + player.line() + "\"");
            return;
        }
        Matcher parts = ROW.matcher(row);
        if (!parts.matches()) {
            throw new IllegalArgumentException("not a row");
        }
        Call call = Call.of(parts.group(1));
        String kind = parts.group(2) == null ? "" : parts.group(2);
        String want = kind.equals("!") ? parts.group(3) + "Exception" : parts.group(3);
        if (isTested && (kind.equals("!") || kind.equals("=="))) {
            changesNothing(call, want);
        }
        String answer = makeCall(call);
        if (kind.isEmpty()) {
            CHECK.due(place + " " + call + " is done", false, () -> answer.endsWith("Exception"));
        } else {
            CHECK.due(place + " " + call, want, () -> answer);
        }
        // What changes nothing is not played again, but a run that throws has emptied the buffer.
        if (!isTested || kind.isEmpty() || kind.equals("=") || call.name().equals("run")) {
            past.add(call);
            unchanged = null;
        }
    }

    private String makeCall(Call call) {
        String answer = player.answer(call);
        CHECK.due(place + " " + call + " by the model", answer,
                () -> model.call(call.name(), call.number(0), call.number(1), call.number(2)));
        return answer;
    }

    private void typeText(String text) {
        for (char sign : text.toCharArray()) {
            Call call = new Call("type", sign);
            String answer = makeCall(call);
            CHECK.due(place + " " + call + " is done", false, () -> answer.endsWith("Exception"));
            past.add(call);
            unchanged = null;
        }
    }

    private void changesNothing(Call call, String want) {
        List<Call> longer = new ArrayList<>(past);
        longer.add(call);
        if (call.name().equals("run")) {
            String recorded = want.startsWith("IllegalArgument") ? "errorPosition: " : "failedCommand: ";
            same(call, without(recorded, Whole.withoutBuffer(past)), without(recorded, Whole.withoutBuffer(longer)));
            CHECK.due(place + " the buffer is empty", "1", () -> new Player(longer).answer(Call.of("type('x')")));
            return;
        }
        Player reader = new Player(past);
        List<String> before = reader.visible();
        reader.answer(call);
        same(call, before, reader.visible());
        if (unchanged == null) {
            unchanged = Whole.behind(past);
        }
        same(call, unchanged, Whole.behind(longer));
    }

    private static List<String> without(String name, List<String> rows) {
        return rows.stream().filter(row -> !row.contains(name)).toList();
    }

    private void same(Call call, List<String> before, List<String> after) {
        CHECK.due(place + " " + call + " leaves as many rows", before.size(), () -> after.size());
        for (int i = 0; i < Math.min(before.size(), after.size()); i++) {
            String row = after.get(i);
            CHECK.due(place + " " + call + " changes nothing", before.get(i), () -> row);
        }
    }
}
