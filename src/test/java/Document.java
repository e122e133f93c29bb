import java.io.IOException;
import java.io.UncheckedIOException;
import java.nio.file.Files;
import java.nio.file.Path;
import java.util.ArrayList;
import java.util.HashSet;
import java.util.List;
import java.util.Map;
import java.util.Set;
import java.util.TreeMap;

/** The document's sentences, cut at each ";": a test quotes the one that it is about; one that none quotes is told. */
final class Document {
    private static final Map<String, List<String>> SENTENCES = new TreeMap<>();
    private static final Set<String> QUOTED = new HashSet<>();

    static {
        read();
    }

    private Document() {
    }

    /** The part is the number of a promise, "512 calls", or a heading of the document's part "Terms". */
    static void quote(String part, String words) {
        Check.about(part + " (" + words + ")");
        boolean found = false;
        for (String sentence : SENTENCES.getOrDefault(part, List.of())) {
            if (sentence.contains(words)) {
                found = true;
                QUOTED.add(part + ": " + sentence);
            }
        }
        Check.same("the document's words", "true", String.valueOf(found));
    }

    static void quote(int promise, String words) {
        quote(String.valueOf(promise), words);
    }

    static void tellUnquoted() {
        Check.about("no test quotes");
        for (String part : SENTENCES.keySet()) {
            for (String sentence : SENTENCES.get(part)) {
                String whole = part + ": " + sentence;
                Check.same(whole, "true", String.valueOf(QUOTED.contains(whole)));
            }
        }
        Check.same("promises and parts of the terms", "44", String.valueOf(SENTENCES.size()));
    }

    private static void read() {
        String chapter = "";
        String part = "";
        for (String line : lines()) {
            if (line.startsWith("## ")) {
                chapter = line.substring(3);
                part = chapter.startsWith("Promise ") ? chapter.substring(8, chapter.indexOf(':')) : "";
            } else if (chapter.equals("Terms") && line.matches("[A-Z][A-Z, ]+")) {
                part = line;
            } else if (line.startsWith("An object is used for at most 512 calls")) {
                keep("512 calls", line.split(";")[0]);
            } else if (!part.isEmpty() && !line.isBlank() && !line.startsWith("Ahead of the calls")) {
                keep(part, line);
            }
        }
    }

    private static List<String> lines() {
        try {
            return Files.readAllLines(Path.of("../shared/DOC.md"));
        } catch (IOException thrown) {
            throw new UncheckedIOException(thrown);
        }
    }

    /** The head of a promise, in signs of code, and words that only name an argument or an answer are no sentences. */
    private static void keep(String part, String line) {
        String words = line.replaceFirst("^`[^`]*\\(.*?\\)[^`]*`: ", "").replaceFirst("^- ", "");
        if (words.matches("`\\w+`: the (other )?plant")) {
            return;
        }
        for (String sentence : words.split("(?<=;) |(?<=[.)]) (?=[A-Z(])")) {
            if (!sentence.matches("Returns (the|its) \\w+[.;]")) {
                SENTENCES.computeIfAbsent(part, each -> new ArrayList<>()).add(sentence);
            }
        }
    }
}
