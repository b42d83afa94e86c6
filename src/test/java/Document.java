import java.io.IOException;
import java.nio.charset.StandardCharsets;
import java.nio.file.Files;
import java.nio.file.Path;
import java.util.ArrayList;
import java.util.LinkedHashMap;
import java.util.List;
import java.util.Map;

/**
 * The document, head by head, and which of its words are named by a test. The words of a head stand in one line,
 * without the signs of lists and of code; a head is called by what stands ahead of its colon.
 */
final class Document {
    private static final Path PLACE = Path.of("../shared/DOC.md");
    private static final Map<String, String> WORDS = read();
    private static final Map<String, boolean[]> MARKED = new LinkedHashMap<>();

    private Document() {
    }

    private static Map<String, String> read() {
        Map<String, String> words = new LinkedHashMap<>();
        List<String> lines;
        try {
            lines = Files.readAllLines(PLACE, StandardCharsets.UTF_8);
        } catch (IOException e) {
            System.out.println("   the document can't be read, its words are not looked up: " + e);
            return words;
        }
        String head = "";
        boolean inCode = false;
        for (String line : lines) {
            if (line.startsWith("```")) {
                inCode = !inCode;
            } else if (!inCode && line.startsWith("#")) {
                head = line.replaceFirst("#+ *", "").replaceFirst(":.*", "");
                words.put(head, "");
            } else if (!inCode && !line.isBlank()) {
                String plain = line.strip().replaceFirst("^(- |[0-9]\\. )", "").replace("`", "");
                words.merge(head, plain, (ahead, more) -> ahead.isEmpty() ? more : ahead + " " + more);
            }
        }
        return words;
    }

    /** Without the document the calls can be tested all the same. */
    static boolean isHere() {
        return !WORDS.isEmpty();
    }

    static List<String> heads() {
        return new ArrayList<>(WORDS.keySet());
    }

    /** Marks words as named; false if the head does not have them. */
    static boolean mark(String head, String words) {
        if (!isHere()) {
            return true;
        }
        String all = WORDS.getOrDefault(head, "");
        boolean[] marked = MARKED.computeIfAbsent(head, h -> new boolean[all.length()]);
        int place = words.isEmpty() ? -1 : all.indexOf(words);
        boolean found = place >= 0;
        while (place >= 0) {
            for (int i = place; i < place + words.length(); i++) {
                marked[i] = true;
            }
            place = all.indexOf(words, place + 1);
        }
        return found;
    }

    /** The words of a head that are not marked, but for those without a letter or a digit. */
    static List<String> unmarked(String head) {
        String all = WORDS.getOrDefault(head, "");
        boolean[] marked = MARKED.getOrDefault(head, new boolean[all.length()]);
        List<String> rest = new ArrayList<>();
        StringBuilder run = new StringBuilder();
        for (int i = 0; i <= all.length(); i++) {
            if (i < all.length() && !marked[i]) {
                run.append(all.charAt(i));
                continue;
            }
            if (run.toString().matches(".*[A-Za-z0-9].*")) {
                rest.add(run.toString().strip());
            }
            run.setLength(0);
        }
        return rest;
    }
}
