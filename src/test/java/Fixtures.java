import java.io.IOException;
import java.nio.file.Files;
import java.nio.file.Path;
import java.util.ArrayList;
import java.util.LinkedHashMap;
import java.util.List;
import java.util.Map;

/** The rows of fixtures.txt by the names of the fixtures; what a fixture uses is put in its place. */
final class Fixtures {
    static final String FILE = "fixtures.txt";

    private Fixtures() {
    }

    static Map<String, List<String>> read(Path folder) throws IOException {
        Map<String, List<String>> fixtures = new LinkedHashMap<>();
        List<String> rows = new ArrayList<>();
        for (String row : Files.readAllLines(folder.resolve(FILE))) {
            if (row.startsWith("fixture ")) {
                rows = new ArrayList<>();
                fixtures.put(row.substring(8), rows);
            } else if (row.startsWith("use ")) {
                rows.addAll(fixtures.get(row.substring(4)));
            } else if (!row.isEmpty() && !row.startsWith("//")) {
                rows.add(row);
            }
        }
        return fixtures;
    }
}
