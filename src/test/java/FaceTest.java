import java.io.IOException;
import java.lang.reflect.Constructor;
import java.lang.reflect.Field;
import java.lang.reflect.Method;
import java.lang.reflect.Modifier;
import java.nio.file.Files;
import java.nio.file.Path;
import java.util.ArrayList;
import java.util.Arrays;
import java.util.HashMap;
import java.util.HashSet;
import java.util.List;
import java.util.Map;
import java.util.Set;
import java.util.TreeSet;
import java.util.regex.Matcher;
import java.util.regex.Pattern;
import java.util.stream.Collectors;

/** Compares the face of the class with the document, and its source with the rules of LANGUAGE.md that a text shows. */
public final class FaceTest {
    private static final Check CHECK = new Check();

    public static void main(String[] args) throws IOException {
        Path root = Path.of(args[0]);
        String document = Files.readString(Path.of(args[1]).resolve("DOC.md"));
        String source = Files.readString(root.resolve("src/main/java/TrailGuide.java"));
        face(document);
        headers(document, source);
        members();
        insideClasses();
        names();
        sourceRules(source);
        methodLengths(source);
        CHECK.finish();
    }

    private static void face(String document) {
        int start = document.indexOf("public final class TrailGuide");
        Matcher line = Pattern.compile("    public (\\w+ )?(\\w+)\\((.*?)\\)(?: throws (.*?))?;")
                .matcher(document.substring(start, document.indexOf("```", start)));
        Set<String> want = new TreeSet<>();
        while (line.find()) {
            String types = Arrays.stream(line.group(3).split(", ")).map(p -> p.split(" ")[0])
                    .collect(Collectors.joining(","));
            String thrown = line.group(4) == null ? "" : line.group(4).replace(" ", "");
            String result = line.group(1) == null ? "" : line.group(1);
            want.add(result + line.group(2) + "(" + types + ") " + thrown);
        }
        Set<String> got = new TreeSet<>();
        for (Method method : TrailGuide.class.getDeclaredMethods()) {
            if (!Modifier.isPrivate(method.getModifiers())) {
                got.add(method.getReturnType().getSimpleName() + " " + method.getName() + namesOf(
                        method.getParameterTypes()) + thrownNames(method.getExceptionTypes()));
            }
        }
        for (Constructor<?> made : TrailGuide.class.getDeclaredConstructors()) {
            got.add("TrailGuide" + namesOf(made.getParameterTypes()) + thrownNames(made.getExceptionTypes()));
        }
        CHECK.due("the number of members of the face", 53, () -> want.size());
        CHECK.due("the face", want, () -> got);
    }

    /** The methods stand in the source to the letter and in the document's order, below the document's headings. */
    private static void headers(String document, String source) {
        Matcher heading = Pattern.compile("(?m)^Ahead of the calls `(\\w+)`.*: (---- .*)\\.$").matcher(document);
        Map<String, String> headings = new HashMap<>();
        while (heading.find()) {
            headings.put(heading.group(1), "// " + heading.group(2));
        }
        CHECK.due("the headings of the face", 8, headings::size);
        int start = document.indexOf("public final class TrailGuide");
        Matcher method = Pattern.compile("    (public (?:\\w+ )?(\\w+)\\(.*);")
                .matcher(document.substring(start, document.indexOf("```", start)));
        List<String> parts = new ArrayList<>();
        while (method.find()) {
            if (headings.containsKey(method.group(2))) {
                parts.add(headings.get(method.group(2)));
            }
            parts.add(method.group(1) + " {");
        }
        CHECK.due("the headers and headings of the face", 61, parts::size);
        String text = source.replaceAll("\\s+", " ");
        int from = 0;
        for (String part : parts) {
            int found = text.indexOf(part, from);
            CHECK.due("in the source, in its place: " + part, true, () -> found >= 0);
            from = found < 0 ? from : found + part.length();
        }
    }

    private static String namesOf(Class<?>[] types) {
        return "(" + Arrays.stream(types).map(Class::getSimpleName).collect(Collectors.joining(",")) + ") ";
    }

    private static String thrownNames(Class<?>[] types) {
        return Arrays.stream(types).map(Class::getSimpleName).collect(Collectors.joining(","));
    }

    private static void members() {
        CHECK.due("public final", true, () -> Modifier.isPublic(TrailGuide.class.getModifiers())
                && Modifier.isFinal(TrailGuide.class.getModifiers()));
        for (Field field : TrailGuide.class.getDeclaredFields()) {
            CHECK.due("private field " + field.getName(), true, () -> Modifier.isPrivate(field.getModifiers()));
        }
    }

    private static void insideClasses() {
        Class<?>[] inside = TrailGuide.class.getDeclaredClasses();
        CHECK.due("at most twelve classes", true, () -> inside.length + 1 <= 12);
        for (Class<?> type : inside) {
            CHECK.due("static and not public " + type.getSimpleName(), true,
                    () -> Modifier.isStatic(type.getModifiers()) && !Modifier.isPublic(type.getModifiers()));
            CHECK.due("at most twenty fields in " + type.getSimpleName(), true,
                    () -> type.getDeclaredFields().length <= 20);
            for (Field field : type.getDeclaredFields()) {
                CHECK.due("no static state " + field.getName(), false, () -> Modifier.isStatic(field.getModifiers()));
            }
        }
        for (Field field : TrailGuide.class.getDeclaredFields()) {
            boolean isStatic = Modifier.isStatic(field.getModifiers());
            CHECK.due("final static field " + field.getName(), true,
                    () -> !isStatic || Modifier.isFinal(field.getModifiers()));
        }
    }

    private static void names() {
        Set<String> open = new HashSet<>();
        List<Class<?>> types = new ArrayList<>(List.of(TrailGuide.class));
        types.addAll(List.of(TrailGuide.class.getDeclaredClasses()));
        for (Method method : TrailGuide.class.getDeclaredMethods()) {
            if (Modifier.isPublic(method.getModifiers())) {
                open.add(method.getName());
            }
        }
        for (Class<?> type : types) {
            for (Method method : type.getDeclaredMethods()) {
                CHECK.due("at most seven parameters of " + method.getName(), true,
                        () -> method.getParameterCount() <= 7);
                if (!Modifier.isPublic(method.getModifiers())) {
                    CHECK.due("a name of its own for " + method.getName(), false,
                            () -> open.contains(method.getName()));
                }
            }
        }
    }

    private static void sourceRules(String source) {
        String code = source.replaceAll("(?s)/\\*.*?\\*/", "").replaceAll("//[^\n]*", "")
                .replaceAll("\"[^\"]*\"", "\"\"").replaceAll("'[^']*'", "' '");
        for (String word : List.of("->", "::", "catch", "try", "finally", "synchronized", "assert", "instanceof",
                "Math.", "record", "package", "float[", "String.valueOf", "\" +", "+ \"")) {
            CHECK.due("no " + word, false, () -> code.contains(word.matches("\\w+") ? word + " " : word));
        }
        Set<String> imports = new TreeSet<>();
        Matcher found = Pattern.compile("import ([\\w.]+);").matcher(code);
        while (found.find()) {
            imports.add(found.group(1));
        }
        CHECK.due("imports", "[java.util.NoSuchElementException]", () -> imports);
        CHECK.due("signs of the source", true, () -> source.chars().allMatch(c -> c == '\n' || c >= 32 && c < 127));
    }

    private static void methodLengths(String source) {
        Matcher method = Pattern.compile("(?m)^((?: {4}){1,2})(?:(?:public|private|static|final) )*"
                + "(?!return|throw|else|new)[\\w\\[\\]]+ (\\w+)\\([^;{]*\\{\n(?s:(.*?))\n\\1\\}").matcher(source);
        int found = 0;
        while (method.find()) {
            found++;
            int lines = method.group(3).split("\n").length;
            CHECK.due("a short method " + method.group(2), true, () -> lines <= 60);
        }
        int methods = found;
        CHECK.due("most methods were found", true, () -> methods > 120);
    }
}
