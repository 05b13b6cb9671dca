import java.io.IOException;
import java.nio.file.Files;
import java.nio.file.Path;
import java.util.ArrayList;
import java.util.LinkedHashMap;
import java.util.List;
import java.util.Map;
import java.util.regex.Matcher;
import java.util.regex.Pattern;
import java.util.stream.Stream;

/**
 * Compares what the tests say (Check.says) with the document: each of its sentences from "Terms" to
 * "Promise 29" is quoted by a test, under its section, and no test quotes what it does not say.
 */
public final class DocumentTest {
    private static final Path DOCUMENT = Path.of("../shared/DOC.md");
    private static final Path TESTS = Path.of("src/test/java");

    /** These are only words about the calls: they name no case that could be tested. */
    private static final Pattern TELLS_NOTHING = Pattern.compile("Figures that are written by strokes .*"
            + "|It tells what a figure is read as and why not.*"
            + "|Ahead of the calls .* the interface says: ---- (text|actions|what there is|scripts, simulations"
            + "|save slots)\\.");

    private static final Pattern SAYS = Pattern.compile(
            "Check\\.says\\(\\s*\"([^\"]*)\",\\s*((?:\"(?:[^\"\\\\]|\\\\.)*\"[\\s+]*)+)\\)");

    public static void main(String[] args) throws IOException {
        if (!Files.exists(DOCUMENT)) {
            System.out.println("there is no " + DOCUMENT + " to compare the quotations with");
            return;
        }
        Map<String, List<String>> quoted = quoted();
        Map<String, List<String>> document = document(Files.readString(DOCUMENT));
        for (String section : document.keySet()) {
            for (String sentence : document.get(section)) {
                if (!TELLS_NOTHING.matcher(sentence).matches() && !isQuoted(sentence, quoted.get(section))) {
                    Check.tell(section + ": no test says: " + sentence);
                }
            }
        }
        for (String section : quoted.keySet()) {
            String said = String.join(" ", document.getOrDefault(section, List.of()));
            for (String sentence : quoted.get(section)) {
                Check.due(section + ": the document says: " + sentence, said.contains(sentence) ? 1 : 0, 1);
            }
        }
        Check.due("sections", document.size(), 39);
        Check.end();
    }

    private static boolean isQuoted(String sentence, List<String> quotations) {
        return quotations != null && quotations.stream().anyMatch(quotation -> quotation.contains(sentence));
    }

    private static Map<String, List<String>> quoted() throws IOException {
        Map<String, List<String>> quoted = new LinkedHashMap<>();
        List<Path> files;
        try (Stream<Path> all = Files.list(TESTS)) {
            files = all.sorted().toList();
        }
        for (Path file : files) {
            Matcher matcher = SAYS.matcher(Files.readString(file));
            while (matcher.find()) {
                String literals = matcher.group(2).strip();
                String sentence = literals.substring(1, literals.length() - 1)
                        .replaceAll("\"\\s*\\+\\s*\"", "").replace("\\\"", "\"");
                quoted.computeIfAbsent(matcher.group(1), key -> new ArrayList<>()).add(sentence);
            }
        }
        return quoted;
    }

    /** The sentences of each section; lines in capitals begin one, and the constants have their own. */
    private static Map<String, List<String>> document(String text) {
        Map<String, List<String>> document = new LinkedHashMap<>();
        String section = "";
        for (String block : text.split("\n\\s*\n|\n(?=[-#A-Z])")) {
            String line = block.replaceAll("\\s+", " ").strip();
            if (line.startsWith("## Promise ")) {
                section = line.substring(3, line.indexOf(':'));
            } else if (line.startsWith("## ")) {
                section = line.substring(3);
            } else if (line.matches("[A-Z ]+")) {
                section = line;
            } else if (line.startsWith("The constants: ")) {
                section = "Constants";
                add(document, section, line.substring("The constants: ".length()));
            } else if (!List.of("", "The public face", "Not promised").contains(section)) {
                add(document, section, line);
            }
        }
        return document;
    }

    private static void add(Map<String, List<String>> document, String section, String block) {
        String prose = block.replaceFirst("^- ", "").replaceFirst("^`[^`]*\\)[^`]*`: ", "");
        for (String sentence : prose.split("(?<=\\.) ")) {
            document.computeIfAbsent(section, key -> new ArrayList<>()).add(sentence);
        }
    }
}
