import java.util.Arrays;
import java.util.regex.Matcher;
import java.util.regex.Pattern;

/** A call of the face with its arguments as numbers, written as "addTrail(0, 1, 20)" or "type('x')". */
record Call(String name, int... numbers) {
    private static final Pattern FORM = Pattern.compile("(\\w+)\\((.*)\\)");
    private static final Pattern NUMBER_OF_A_SIGN = Pattern.compile("\\\\u([0-9a-f]{4})");

    static Call of(String text) {
        Matcher form = FORM.matcher(text);
        if (!form.matches()) {
            throw new IllegalArgumentException("not a call: " + text);
        }
        String arguments = form.group(2);
        if (arguments.isEmpty()) {
            return new Call(form.group(1));
        }
        if (arguments.startsWith("'")) {
            return new Call(form.group(1), withSigns(arguments.substring(1, arguments.length() - 1)).charAt(0));
        }
        return new Call(form.group(1), Arrays.stream(arguments.split(", ")).mapToInt(Integer::parseInt).toArray());
    }

    /** The text with each sign that is written by its number. */
    static String withSigns(String text) {
        return NUMBER_OF_A_SIGN.matcher(text).replaceAll(
                found -> Matcher.quoteReplacement("" + (char) Integer.parseInt(found.group(1), 16)));
    }

    int number(int place) {
        return place < numbers.length ? numbers[place] : 0;
    }

    @Override
    public String toString() {
        String text = Arrays.toString(numbers);
        return name + "(" + text.substring(1, text.length() - 1) + ")";
    }
}
