import java.io.IOException;
import java.util.List;
import java.util.stream.Stream;

/**
 * Every sentence of ../shared/DOC.md that names an edge, with a test of its own that quotes the sentence in each of
 * its messages; and that no words of the document are left without a test.
 */
public final class EdgesTest {
    // These only say what the sentences beside them are about, or what is left open.
    private static final List<Answers.Held> NO_EDGE = List.of(
        new Answers.Held("What it is", "A simulator of a clustered wireless sensor network: in every round some "
                + "sensors become cluster heads by drawn thresholds, the others join the nearest head and send their "
                + "readings in slots, heads forward aggregated messages to a base station directly or through a relay, "
                + "and batteries run down"),
        new Answers.Held("What it is", "what later calls answer is free"),
        new Answers.Held("Rounds", "A round has these steps"),
        new Answers.Held("Errors", "Examples: Each of them begins with a new object; the results are given behind the "
                + "calls"),
        new Answers.Held("Errors", "The constants"),
        new Answers.Held("Errors", "The constructor and the methods follow, a promise each: the signature, then "
                + "what it does"),
        new Answers.Held("Promise 4", "Changes a setting"),
        new Answers.Held("Promise 5", "Sets the state of the generator"),
        new Answers.Held("Promise 9", "Counts the sensors"),
        new Answers.Held("Promise 11", "Tells whether a sensor is alive"),
        new Answers.Held("Promise 12", "Returns the battery of a sensor"),
        new Answers.Held("Promise 22", "Returns what it would cost a sensor to send a message to another one or to the "
                + "base station"),
        new Answers.Held("Promise 23", "Forecasts the round in which a sensor dies"),
        new Answers.Held("Promise 24", "Forecasts how many readings are delivered"),
        new Answers.Held("Promise 25", "Restores the most recently saved state"));

    private static final Answers A = new Answers("EdgesTest");

    public static void main(String[] args) throws IOException {
        new NetworkEdges(A).run();
        new DrawEdges(A).run();
        new RoundEdges(A).run();
        new UndoEdges(A).run();
        new RefusalEdges(A).run();
        new PromiseEdges(A).run();
        A.holdsNothing();
        if (Document.isThere()) {
            quotes(Document.read());
        } else {
            System.out.println("The document is not here, so the quotes are not compared with it.");
        }
        A.finish();
    }

    private static void quotes(Document document) {
        for (Answers.Held held : A.allHeld()) {
            A.due("the document says " + held, document.says(held.section(), held.words()) ? 1 : 0, 1);
        }
        for (String section : document.sections()) {
            String untested = document.unquoted(section, quotesOf(section));
            A.due("words of " + section + " without a test: '" + untested + "'", untested.length(), 0);
        }
    }

    private static List<String> quotesOf(String section) {
        return Stream.concat(A.allHeld().stream(), NO_EDGE.stream())
            .filter(held -> held.section().equals(section))
            .map(Answers.Held::words)
            .toList();
    }
}
