import java.io.IOException;
import java.nio.file.Files;
import java.nio.file.Path;
import java.util.ArrayList;
import java.util.LinkedHashMap;
import java.util.List;
import java.util.Map;

/** The rows of fixtures.txt by the names of the fixtures; what a fixture uses is put in its place. */
final class Fixtures {
    static final String FILE = "fixtures.txt";

    private Fixtures() {
    }

    /** The folder of the files in which the rows stand. */
    static Path folder(String root) {
        return Path.of(root).resolve("src/test/boundaries");
    }

    static Map<String, List<Row>> read(Path folder) throws IOException {
        Map<String, List<Row>> fixtures = new LinkedHashMap<>();
        List<Row> rows = new ArrayList<>();
        fixtures.put("", rows);
        for (String row : Files.readAllLines(folder.resolve(FILE))) {
            if (row.startsWith("fixture ")) {
                rows = new ArrayList<>();
                fixtures.put(row.substring(8), rows);
            } else if (row.startsWith("use ")) {
                rows.addAll(fixtures.get(row.substring(4)));
            } else if (!row.isEmpty() && !row.startsWith("//")) {
                rows.addAll(Row.of(row));
            }
        }
        return fixtures;
    }
}
