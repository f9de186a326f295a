import java.io.IOException;
import java.nio.file.Files;
import java.nio.file.Path;
import java.util.ArrayList;
import java.util.Arrays;
import java.util.LinkedHashMap;
import java.util.List;
import java.util.Map;

/** The sentences of ../shared/DOC.md, by the section that says them. */
final class Document {
    private static final Path FILE = Path.of("../shared/DOC.md");
    private final Map<String, List<String>> lines = new LinkedHashMap<>();

    private Document() {
    }

    static boolean isThere() {
        return Files.isReadable(FILE);
    }

    static Document read() throws IOException {
        Document document = new Document();
        String section = "";
        for (String line : Files.readAllLines(FILE)) {
            if (line.startsWith("#")) {
                section = line.replaceAll("^#+ ", "").replaceAll("^(Promise \\d+):.*", "$1");
            } else if (isProse(line) && !section.equals("Not promised")) {
                document.lines.computeIfAbsent(section, s -> new ArrayList<>()).add(line);
            }
        }
        return document;
    }

    // Signatures, rulers and code say nothing that these tests hold, and ExamplesTest plays the numbered examples.
    private static boolean isProse(String line) {
        boolean example = line.matches("\\d\\. .*\\) = -?\\d+.*");
        return !example && !line.isBlank() && !line.matches("(```|----|`[A-Za-z]).*|}| {4}public .*|public .*");
    }

    boolean says(String section, String words) {
        return lines.getOrDefault(section, List.of()).stream().anyMatch(line -> line.contains(words));
    }

    Iterable<String> sections() {
        return lines.keySet();
    }

    /** The words of a section that are in none of the quotes. */
    String unquoted(String section, List<String> quotes) {
        StringBuilder left = new StringBuilder();
        for (String line : lines.get(section)) {
            boolean[] quoted = new boolean[line.length()];
            for (String quote : quotes) {
                mark(quoted, line, quote);
            }
            for (int n = 0; n < quoted.length; n++) {
                left.append(quoted[n] ? ' ' : line.charAt(n));
            }
            left.append(' ');
        }
        return left.toString().replaceAll("[^A-Za-z0-9]+", " ").trim();
    }

    private static void mark(boolean[] quoted, String line, String quote) {
        for (int at = line.indexOf(quote); at >= 0; at = line.indexOf(quote, at + 1)) {
            Arrays.fill(quoted, at, at + quote.length(), true);
        }
    }
}
