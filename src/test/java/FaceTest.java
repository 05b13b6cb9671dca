import java.io.IOException;
import java.lang.reflect.Field;
import java.lang.reflect.Member;
import java.lang.reflect.Method;
import java.lang.reflect.Modifier;
import java.nio.file.Files;
import java.nio.file.Path;
import java.util.ArrayList;
import java.util.List;
import java.util.Set;
import java.util.TreeSet;
import java.util.regex.Matcher;
import java.util.regex.Pattern;

/** The public face, and those rules of LANGUAGE.md that the class or its text show plainly. */
public final class FaceTest {
    private static final String[] FACE = {
        "append int", "clearText", "errorPosition", "about int", "sign int", "sample int int",
        "signOf int int", "practised int int", "setting int", "point int int", "lift", "draw",
        "learn int", "forget int", "practise int", "set int int", "undo", "read int", "nearest int",
        "between int int", "closest", "byOthers", "bestRuling", "mirrored", "runScript int long",
        "simulate long int", "save int", "restore int"};

    private static final String[] FORBIDDEN = {
        "\\bimport\\b", "\\bpackage\\b", "\\btry\\b", "\\bcatch\\b", "\\bfinally\\b", "->", "::",
        "\\bdouble\\b", "\\bfloat\\b", "\\bsynchronized\\b", "\\bassert\\b", "Exact\\b",
        "\\bstatic \\{", "\" \\+", "\\+ \"", "[^\\x00-\\x7f]"};

    private static final Path DOCUMENT = Path.of("../shared/DOC.md");
    private static final Pattern BLOCK = Pattern.compile("```java\n(.*?)```", Pattern.DOTALL);
    /** A method or constructor as a whole: its indent, its name and its parameters. */
    private static final Pattern METHOD = Pattern.compile(
            "(?m)^( +)(?:[\\w\\[\\]]+ )*(\\w+)\\(([^()]*)\\)[\\w, ]*\\{\n(?:(?s:.*?)\n)??\\1\\}");

    public static void main(String[] args) throws IOException {
        String text = Files.readString(Path.of("src/main/java/RuledStrokes.java"));
        methods();
        fields();
        source(text);
        sizes(text);
        if (Files.exists(DOCUMENT)) {
            declarations(Files.readString(DOCUMENT), text);
        } else {
            System.out.println("there is no " + DOCUMENT + " to compare the face with");
        }
        Check.end();
    }

    /** The face as the document writes it: each line of it stands in the class to the letter. */
    private static void declarations(String document, String text) {
        Set<String> written = new TreeSet<>();
        for (String line : text.split("\n")) {
            if (line.startsWith("public ") || line.startsWith("    public ")) {
                written.add(line.strip().replaceFirst("( \\{|;)$", ""));
            }
        }
        Matcher block = BLOCK.matcher(document);
        Check.due("the document has a face", block.find() ? 1 : 0, 1);
        Set<String> due = new TreeSet<>();
        for (String line : block.group(1).split("\n")) {
            due.add(line.strip().replaceFirst("( \\{|;)$", ""));
        }
        due.remove("}");
        for (String line : due) {
            Check.due("the class has: " + line, written.contains(line) ? 1 : 0, 1);
        }
        for (String line : written) {
            Check.due("the document has: " + line, due.contains(line) ? 1 : 0, 1);
        }
    }

    /** Rule 11: parameters, lines of a method, classes, fields beside the constants. */
    private static void sizes(String text) {
        List<String> found = new ArrayList<>();
        Matcher method = METHOD.matcher(text);
        while (method.find()) {
            String name = method.group(2);
            Check.due(name + " has at most 60 lines", method.group().split("\n").length <= 60 ? 1 : 0, 1);
            Check.due(name + " has at most 7 parameters", method.group(3).split(",").length <= 7 ? 1 : 0, 1);
            found.add(name);
        }
        List<Class<?>> classes = new ArrayList<>(List.of(RuledStrokes.class.getDeclaredClasses()));
        classes.add(RuledStrokes.class);
        int methods = 0;
        for (Class<?> of : classes) {
            int fields = 0;
            for (Field field : of.getDeclaredFields()) {
                fields += Modifier.isStatic(field.getModifiers()) ? 0 : 1;
            }
            Check.due(of + " has at most 20 fields", fields <= 20 ? 1 : 0, 1);
            methods += of.getDeclaredMethods().length;
            found.removeIf(of.getSimpleName()::equals);
        }
        Check.due("at most 12 classes", classes.size() <= 12 ? 1 : 0, 1);
        Check.due("methods that were found in the text", found.size(), methods);
    }

    private static void methods() {
        int modifiers = RuledStrokes.class.getModifiers();
        Check.due("public", Modifier.isPublic(modifiers) ? 1 : 0, 1);
        Check.due("final", Modifier.isFinal(modifiers) ? 1 : 0, 1);
        Check.due("constructors", RuledStrokes.class.getDeclaredConstructors().length, 1);
        Check.due("public constructors", RuledStrokes.class.getConstructors().length, 1);
        Set<String> got = new TreeSet<>();
        Set<String> hidden = new TreeSet<>();
        for (Method method : RuledStrokes.class.getDeclaredMethods()) {
            StringBuilder head = new StringBuilder(method.getName());
            for (Class<?> type : method.getParameterTypes()) {
                head.append(' ').append(type.getName());
            }
            if (!Modifier.isPrivate(method.getModifiers())) {
                got.add(head.toString());
                Check.due(head + ": public", Modifier.isPublic(method.getModifiers()) ? 1 : 0, 1);
                Check.due(head + ": int", method.getReturnType() == int.class ? 1 : 0, 1);
            } else {
                hidden.add(method.getName());
            }
        }
        if (!got.equals(new TreeSet<>(List.of(FACE)))) {
            Check.tell("the face is " + got);
        }
        for (Class<?> inside : RuledStrokes.class.getDeclaredClasses()) {
            Check.due(inside + ": static", Modifier.isStatic(inside.getModifiers()) ? 1 : 0, 1);
            for (Method method : inside.getDeclaredMethods()) {
                hidden.add(method.getName());
            }
        }
        for (String head : FACE) {
            Check.due(head + " inside", hidden.contains(head.split(" ")[0]) ? 1 : 0, 0);
        }
    }

    private static void fields() {
        List<String> visible = new ArrayList<>();
        for (Field field : RuledStrokes.class.getDeclaredFields()) {
            if (!Modifier.isPrivate(field.getModifiers())) {
                visible.add(field.getName());
            }
            dueFinalIfStatic(field, field.getModifiers());
        }
        Check.due("fields of the face", visible.equals(List.of("NONE")) ? 1 : 0, 1);
        for (Class<?> inside : RuledStrokes.class.getDeclaredClasses()) {
            for (Field field : inside.getDeclaredFields()) {
                dueFinalIfStatic(field, field.getModifiers());
            }
        }
    }

    private static void dueFinalIfStatic(Member member, int modifiers) {
        boolean right = !Modifier.isStatic(modifiers) || Modifier.isFinal(modifiers);
        Check.due(member + ": final", right ? 1 : 0, 1);
    }

    private static void source(String text) {
        String code = Pattern.compile("/\\*.*?\\*/|//[^\n]*", Pattern.DOTALL).matcher(text).replaceAll("");
        for (String forbidden : FORBIDDEN) {
            Check.due("found " + forbidden, Pattern.compile(forbidden).matcher(code).find() ? 1 : 0, 0);
        }
    }
}
