import java.io.IOException;
import java.lang.reflect.Method;
import java.nio.file.Files;
import java.nio.file.Path;
import java.util.Arrays;
import java.util.List;
import java.util.regex.Matcher;
import java.util.regex.Pattern;

/** The examples of ../shared/DOC.md as they stand there, and the program in README.md with the answers it tells. */
public final class ExamplesTest {
    private static final Path DOCUMENT = Path.of("../shared/DOC.md");
    private static final Path README = Path.of("README.md");
    private static final int EXAMPLES = 4;

    private static final Pattern EXAMPLE = Pattern.compile("\\d\\. .*: (.*\\) = -?\\d+)\\.");
    private static final Pattern DUE = Pattern.compile("(\\w+)\\((.*)\\) = (-?\\d+)");
    private static final Pattern PROGRAM_CALL = Pattern.compile(".*field\\.(\\w+)\\((.*)\\);\\s+// (-?\\d+)\\b.*");

    private static final Answers A = new Answers("ExamplesTest");

    public static void main(String[] args) throws IOException {
        if (Files.isReadable(DOCUMENT)) {
            documentExamples();
        } else {
            System.out.println("The document is not here, so its examples are not played from it.");
        }
        readmeProgram();
        A.finish();
    }

    private static void documentExamples() throws IOException {
        int examples = 0;
        for (String line : Files.readAllLines(DOCUMENT)) {
            Matcher example = EXAMPLE.matcher(line);
            if (example.matches()) {
                examples++;
                ClusterField x = new ClusterField();
                for (String call : example.group(1).split("; ")) {
                    play(x, "example " + examples + " of the document", call, DUE.matcher(call));
                }
            }
        }
        A.due("examples in the document", examples, EXAMPLES);
    }

    private static void readmeProgram() throws IOException {
        int calls = 0;
        boolean program = false;
        ClusterField x = new ClusterField();
        for (String line : Files.readAllLines(README)) {
            if (line.startsWith("```")) {
                program = line.equals("```java");
            } else if (program && line.contains("field.")) {
                calls++;
                play(x, "README.md", line.trim(), PROGRAM_CALL.matcher(line));
            }
        }
        A.due("README.md shows calls", calls > 0 ? 1 : 0, 1);
    }

    private static void play(ClusterField x, String where, String call, Matcher parts) {
        boolean read = parts.matches();
        A.due(where + " tells a call and its answer in " + call, read ? 1 : 0, 1);
        if (read) {
            long answer = answer(x, parts.group(1), numbers(parts.group(2)));
            A.due(where + ", " + call, answer, Long.parseLong(parts.group(3)));
        }
    }

    private static List<Integer> numbers(String arguments) {
        return Arrays.stream(arguments.split(", "))
            .filter(word -> !word.isEmpty())
            .map(word -> word.equals("ClusterField.NONE") ? ClusterField.NONE : Integer.parseInt(word))
            .toList();
    }

    private static long answer(ClusterField x, String name, List<Integer> arguments) {
        try {
            Class<?>[] types = new Class<?>[arguments.size()];
            Arrays.fill(types, int.class);
            Method method = ClusterField.class.getMethod(name, types);
            return (Integer) method.invoke(x, arguments.toArray());
        } catch (ReflectiveOperationException e) {
            System.out.println(name + arguments + " could not be called: " + e);
            return Long.MIN_VALUE;
        }
    }
}
