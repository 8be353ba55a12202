import java.io.IOException;
import java.nio.file.Files;
import java.nio.file.Path;
import java.util.LinkedHashMap;
import java.util.Map;

/** The words of the document, section by section, and which of them a test has named. */
final class Document {
    private final Map<String, String> words = new LinkedHashMap<>();
    private final Map<String, boolean[]> named = new LinkedHashMap<>();

    /** Without the file nothing is held against it; the tests of the sentences run all the same. */
    Document(Path file) {
        if (Files.isReadable(file)) {
            read(file);
        } else {
            System.out.println(file + " is not there: no sentence is looked up");
        }
    }

    boolean isThere() {
        return !words.isEmpty();
    }

    /** True if the section says these words; they are named then. */
    boolean name(String section, String sentence) {
        String text = words.get(section);
        int at = text == null ? -1 : text.indexOf(sentence);
        for (int k = 0; at >= 0 && k < sentence.length(); k++) {
            named.get(section)[at + k] = true;
        }
        return at >= 0;
    }

    /** The words of a section that no test has named. */
    String unnamed(String section) {
        StringBuilder rest = new StringBuilder();
        String text = words.get(section);
        for (int k = 0; k < text.length(); k++) {
            if (!named.get(section)[k] && Character.isLetterOrDigit(text.charAt(k))) {
                rest.append(text.charAt(k));
            }
        }
        return rest.toString();
    }

    Iterable<String> sections() {
        return words.keySet();
    }

    private void read(Path file) {
        String section = "";
        try {
            for (String line : Files.readAllLines(file)) {
                if (line.startsWith("## ")) {
                    section = line.substring(3).replaceAll(":.*", "");
                } else if (!section.isEmpty() && !line.startsWith("```")) {
                    words.merge(section, plain(line), Document::join);
                }
            }
        } catch (IOException e) {
            throw new IllegalStateException(e);
        }
        words.forEach((name, text) -> named.put(name, new boolean[text.length()]));
    }

    /** Without the marks of the document's parts and the heads of its methods. */
    private static String plain(String line) {
        return line.replaceAll("==== \\d+\\.", "").replaceAll("^`[^`]*\\)`:", "").trim();
    }

    private static String join(String before, String line) {
        return (before + " " + line).trim();
    }
}
