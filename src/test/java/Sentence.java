import java.io.IOException;
import java.nio.charset.StandardCharsets;
import java.nio.file.Files;
import java.nio.file.Path;
import java.util.ArrayList;
import java.util.List;
import java.util.Map;
import java.util.TreeMap;

/**
 * The sentences of the document that tests are for. A sentence that is told must stand in its part of DOC.md word for
 * word and must have an answer looked at; at the end, no part may have words that no test was for.
 */
final class Sentence {
    private static final Map<String, String> PARTS = new TreeMap<>();
    private static final Map<String, boolean[]> QUOTED = new TreeMap<>();
    private static String current = "";
    private static int looked = 1;
    private static int told = 0;

    private Sentence() {
    }

    static void read(Path document) throws IOException {
        if (!Files.exists(document)) {
            System.out.println(document + " isn't there: the sentences aren't compared with it");
            return;
        }
        String heading = "";
        List<String> lines = new ArrayList<>();
        for (String line : Files.readAllLines(document, StandardCharsets.UTF_8)) {
            if (line.startsWith("#")) {
                keep(heading, lines);
                heading = line.replaceFirst("^#+ ", "").replaceFirst("^(Promise [0-9]+):.*", "$1");
                lines.clear();
            } else if (!line.startsWith("```") && !line.startsWith("Ahead of the calls ")) {
                lines.add(line);
            }
        }
        keep(heading, lines);
        Due.is("parts of the document that are promises", 51,
                PARTS.keySet().stream().filter(part -> part.startsWith("Promise ")).count());
    }

    private static void keep(String heading, List<String> lines) {
        String text = String.join(" ", lines);
        if (heading.startsWith("Promise ")) {
            text = text.substring(text.indexOf("`: ") + 3);
        }
        text = plain(text);
        PARTS.put(heading, text);
        QUOTED.put(heading, new boolean[text.length()]);
    }

    private static String plain(String text) {
        return text.replace("`", "").replaceAll("\\s+", " ").trim();
    }

    static void begin(String part, String words) {
        end();
        String sentence = plain(words);
        current = part + " \"" + (sentence.length() > 70 ? sentence.substring(0, 67) + "..." : sentence) + "\": ";
        looked = 0;
        told++;
        String text = PARTS.getOrDefault(part, "");
        int at = text.indexOf(sentence);
        if (at < 0 && !PARTS.isEmpty()) {
            Due.fail(current + "doesn't stand there");
        }
        while (at >= 0) {
            for (int k = 0; k < sentence.length(); k++) {
                QUOTED.get(part)[at + k] = true;
            }
            at = text.indexOf(sentence, at + 1);
        }
    }

    static String current() {
        looked++;
        return current;
    }

    private static void end() {
        if (looked == 0) {
            Due.fail(current + "no answer was looked at");
        }
    }

    /** What of a part no test was for. */
    private static String left(String part) {
        StringBuilder left = new StringBuilder();
        String text = PARTS.get(part);
        for (int k = 0; k < text.length(); k++) {
            left.append(QUOTED.get(part)[k] ? ' ' : text.charAt(k));
        }
        return plain(left.toString());
    }

    static void endAll() {
        end();
        for (String part : PARTS.keySet()) {
            boolean isBinding = part.startsWith("Promise ") || part.equals("Terms");
            if (isBinding && left(part).matches(".*[A-Za-z0-9].*")) {
                Due.fail(part + ": no test is for \"" + left(part) + "\"");
            }
        }
        System.out.println(told + " sentences of the document");
    }
}
