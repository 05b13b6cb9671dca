import java.io.IOException;
import java.lang.reflect.InvocationTargetException;
import java.lang.reflect.Method;
import java.lang.reflect.Modifier;
import java.nio.file.Files;
import java.nio.file.Path;
import java.util.Set;
import java.util.TreeSet;
import java.util.regex.Matcher;
import java.util.regex.Pattern;
import java.util.stream.Stream;

/** What README.md says: the answers of its example, the calls it names, the tests it lists. */
public final class ReadmeTest {
    private static final Pattern CALL = Pattern.compile("x\\.(\\w+)\\(([^)]*)\\);");
    private static final Pattern ANSWER = Pattern.compile("// (-?\\d+)");
    private static final Pattern NAME = Pattern.compile("`(\\w+)`");

    public static void main(String[] args) throws IOException, ReflectiveOperationException {
        String readme = Files.readString(Path.of("README.md"));
        example(part(readme, "```java\n", "```"));
        calls(part(readme, "| calls |", "\n\n"));
        tests(part(readme, "| test |", "\n\n"));
        Check.end();
    }

    /** What stands between the first place of one text and the next place of the other. */
    private static String part(String readme, String from, String to) {
        int start = readme.indexOf(from);
        int end = readme.indexOf(to, start + from.length());
        if (start < 0 || end < 0) {
            Check.tell("README.md has no part that begins with " + from.strip());
            return "";
        }
        return readme.substring(start + from.length(), end);
    }

    /** Does the calls of each line; the number behind // is the answer of the last one. */
    private static void example(String code) throws ReflectiveOperationException {
        RuledStrokes x = new RuledStrokes();
        int compared = 0;
        for (String line : code.split("\n")) {
            Matcher call = CALL.matcher(line);
            int answer = 0;
            while (call.find()) {
                answer = answer(x, call.group(1), call.group(2));
            }
            Matcher due = ANSWER.matcher(line);
            if (due.find()) {
                Check.due(line, answer, Integer.parseInt(due.group(1)));
                compared++;
            }
        }
        Check.due("the example has answers", compared > 0 ? 1 : 0, 1);
    }

    private static int answer(RuledStrokes x, String name, String list) throws ReflectiveOperationException {
        String[] texts = list.isEmpty() ? new String[0] : list.split(", ");
        for (Method method : RuledStrokes.class.getMethods()) {
            if (method.getName().equals(name) && method.getParameterCount() == texts.length) {
                try {
                    return (int) method.invoke(x, arguments(method, texts));
                } catch (InvocationTargetException e) {
                    Check.tell(name + "(" + list + ") threw " + e.getCause());
                    return 0;
                }
            }
        }
        Check.tell("there is no call " + name + "(" + list + ")");
        return 0;
    }

    private static Object[] arguments(Method method, String[] texts) {
        Object[] arguments = new Object[texts.length];
        for (int i = 0; i < texts.length; i++) {
            boolean isChar = texts[i].startsWith("'");
            long value = isChar ? texts[i].charAt(1) : Long.parseLong(texts[i].replace("L", ""));
            if (method.getParameterTypes()[i] == long.class) {
                arguments[i] = value;
            } else {
                arguments[i] = (int) value;
            }
        }
        return arguments;
    }

    private static void calls(String table) {
        Set<String> face = new TreeSet<>();
        for (Method method : RuledStrokes.class.getDeclaredMethods()) {
            if (Modifier.isPublic(method.getModifiers())) {
                face.add(method.getName());
            }
        }
        Check.same("the calls that are named", names(table).toString(), face.toString());
    }

    private static void tests(String table) throws IOException {
        Set<String> files = new TreeSet<>();
        try (Stream<Path> all = Files.list(Path.of("src/test/java"))) {
            all.map(path -> path.getFileName().toString()).filter(name -> name.endsWith("Test.java"))
                    .forEach(name -> files.add(name.replace(".java", "")));
        }
        Set<String> listed = names(table);
        listed.removeIf(name -> !name.endsWith("Test"));
        Check.same("the tests that are listed", listed.toString(), files.toString());
    }

    private static Set<String> names(String table) {
        Set<String> names = new TreeSet<>();
        Matcher matcher = NAME.matcher(table);
        while (matcher.find()) {
            names.add(matcher.group(1));
        }
        return names;
    }
}
