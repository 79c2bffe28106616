import java.util.ArrayList;
import java.util.List;
import java.util.regex.MatchResult;
import java.util.regex.Matcher;
import java.util.regex.Pattern;

/** A row of a file under src/test/boundaries: a call, the kind of what is due, and what is due. */
record Row(Call call, Kind kind, String want) {
    enum Kind { DONE, ANSWERS, ANSWERS_ONLY, THROWS, LINE }

    private static final Pattern CALL = Pattern.compile("(\\w+\\(.*?\\))(?: (==|=|!) (.+))?");
    private static final Pattern REPEATED = Pattern.compile("repeat (\\d+) (.*)");
    private static final Pattern COUNTER = Pattern.compile("#(?:([+*])(\\d+))?");

    /** The rows that a written row stands for: one, or more where it is repeated or types a text. */
    static List<Row> of(String text) {
        List<Row> rows = new ArrayList<>();
        Matcher repeated = REPEATED.matcher(text);
        if (repeated.matches()) {
            for (int i = 0; i < Integer.parseInt(repeated.group(1)); i++) {
                int counter = i;
                rows.addAll(of(COUNTER.matcher(repeated.group(2)).replaceAll(found -> valueOf(found, counter))));
            }
        } else if (text.startsWith("text ")) {
            for (char sign : Call.withSigns(unquoted(text.substring(5))).toCharArray()) {
                rows.add(new Row(new Call("type", sign), Kind.DONE, ""));
            }
        } else if (text.startsWith("line = ")) {
            rows.add(new Row(null, Kind.LINE, unquoted(text.substring(7))));
        } else {
            rows.add(ofCall(text));
        }
        return rows;
    }

    private static String valueOf(MatchResult found, int counter) {
        int by = found.group(2) == null ? 0 : Integer.parseInt(found.group(2));
        return String.valueOf("*".equals(found.group(1)) ? counter * by : counter + by);
    }

    private static String unquoted(String text) {
        if (text.length() < 2 || !text.startsWith("\"") || !text.endsWith("\"")) {
            throw new IllegalArgumentException("not in quotes: " + text);
        }
        return text.substring(1, text.length() - 1);
    }

    private static Row ofCall(String text) {
        Matcher parts = CALL.matcher(text);
        if (!parts.matches()) {
            throw new IllegalArgumentException("not a row: " + text);
        }
        Call call = Call.of(parts.group(1));
        String sign = parts.group(2) == null ? "" : parts.group(2);
        switch (sign) {
            case "=":
                return new Row(call, Kind.ANSWERS, parts.group(3));
            case "==":
                return new Row(call, Kind.ANSWERS_ONLY, parts.group(3));
            case "!":
                return new Row(call, Kind.THROWS, parts.group(3) + "Exception");
            default:
                return new Row(call, Kind.DONE, "");
        }
    }
}
