import java.io.IOException;
import java.nio.file.Files;
import java.nio.file.Path;
import java.util.ArrayList;
import java.util.BitSet;
import java.util.HashMap;
import java.util.List;
import java.util.Map;

/** The sections of the document, and which of their words a test has quoted. */
final class Document {
    private final Map<String, String> texts = new HashMap<>();
    private final Map<String, BitSet> quoted = new HashMap<>();

    Document(Path file) throws IOException {
        for (String part : Files.readString(file).split("(?m)^## ")) {
            int end = part.indexOf('\n');
            String heading = part.substring(0, end).trim();
            texts.put(heading, plain(part.substring(end)));
            quoted.put(heading, new BitSet());
        }
    }

    /** One line, without the fences of code and without the signature that a promise begins with. */
    private static String plain(String text) {
        return text.replaceAll("```\\w*", " ").replaceAll("\\s+", " ").trim().replaceFirst("^`[^`]*`: ", "");
    }

    /** Whether the section has these words; if so, they are quoted from now on. */
    boolean quote(String heading, String words) {
        String text = texts.getOrDefault(heading, "");
        int from = text.indexOf(words);
        boolean found = from >= 0;
        while (from >= 0) {
            quoted.get(heading).set(from, from + words.length());
            from = text.indexOf(words, from + 1);
        }
        return found;
    }

    /** What of the section no test has quoted, but for what lies between words. */
    List<String> unquoted(String heading) {
        List<String> rest = new ArrayList<>();
        String text = texts.getOrDefault(heading, "");
        BitSet marks = quoted.getOrDefault(heading, new BitSet());
        int from = marks.nextClearBit(0);
        while (from < text.length()) {
            int next = marks.nextSetBit(from);
            int end = next < 0 ? text.length() : next;
            String piece = text.substring(from, end);
            if (piece.matches(".*\\w.*")) {
                rest.add(piece.trim());
            }
            from = marks.nextClearBit(end);
        }
        return rest;
    }
}
