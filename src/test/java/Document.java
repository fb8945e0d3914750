import java.io.IOException;
import java.io.UncheckedIOException;
import java.nio.file.Files;
import java.nio.file.Path;
import java.util.ArrayList;
import java.util.LinkedHashSet;
import java.util.List;
import java.util.Set;
import java.util.regex.Matcher;
import java.util.regex.Pattern;

/** The sentences of ../shared/DOC.md, each with its promise's number; those of "What it is" and "Terms" are under 0. */
final class Document {
    static final int TERMS = 0;
    private static final Pattern PROMISE = Pattern.compile("Promise (\\d+):.*");
    private static final Pattern SIGNATURE = Pattern.compile("^`[^`]*`: ");
    private static final Set<String> SENTENCES = read();

    private Document() {
    }

    static String key(int promise, String sentence) {
        return "P" + promise + " \"" + sentence + "\"";
    }

    static Set<String> sentences() {
        return SENTENCES;
    }

    private static Set<String> read() {
        Set<String> found = new LinkedHashSet<>();
        try {
            for (String section : Files.readString(Path.of("../shared/DOC.md")).split("(?m)^## ")) {
                String[] parts = section.split("\n", 2);
                Matcher promise = PROMISE.matcher(parts[0]);
                if (promise.matches()) {
                    addAll(found, Integer.parseInt(promise.group(1)), parts[1]);
                } else if (parts[0].equals("Terms") || parts[0].equals("What it is")) {
                    addAll(found, TERMS, parts[1]);
                }
            }
        } catch (IOException e) {
            throw new UncheckedIOException(e);
        }
        return found;
    }

    private static void addAll(Set<String> found, int promise, String text) {
        for (String paragraph : text.strip().split("\n\\s*\n|\n(?=- )")) {
            // These paragraphs tell the headings of the face alone.
            if (!paragraph.startsWith("Ahead of the calls")) {
                sentencesOf(paragraph).forEach(sentence -> found.add(key(promise, sentence)));
            }
        }
    }

    private static List<String> sentencesOf(String paragraph) {
        String plain = paragraph.replaceAll("\\s+", " ");
        boolean isParameter = plain.startsWith("- ");
        String text = isParameter ? plain.substring(2) : SIGNATURE.matcher(plain).replaceFirst("");
        List<String> sentences = new ArrayList<>();
        for (String sentence : text.split("(?<=\\.) (?=[A-Z])")) {
            // A single word, such as "Pool.", only heads its paragraph.
            if (sentence.contains(" ")) {
                sentences.add(sentence);
            }
        }
        return sentences;
    }
}
