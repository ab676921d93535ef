import java.io.IOException;
import java.nio.file.Files;
import java.nio.file.Path;
import java.util.List;

/**
 * The document sentence by sentence: each test quotes the words that it holds to, and no sentence
 * of the document is left without one.
 */
public final class EdgesTest {
  private static final Path DOCUMENT = Path.of("../shared/DOC.md");
  private static final Path PROGRAM = Path.of("src/main/java/AlertIndex.java");
  private static final int LAST_CALL = 512;

  private static final String[][] HEADINGS = {
    {"questions", "question", "product", "test", "drop", "setQuiet"},
    {"documents and time", "set", "come", "advance"},
    {"matching", "satisfies", "matching", "matchingByIndex", "sizeOf", "withSize", "pieces",
        "pieceAt"},
    {"what there is", "minute", "isQuiet", "alerts", "batch"},
  };

  /** What the document says of no call: its own headings, and what it leaves free. */
  private static final String[][] ASK_NOTHING = {
    {"What it is", "Questions that wait for documents"},
    {"What it is", "what later calls answer is free."},
    {"Terms", "Pieces."},
    {"Terms", "Alerts."},
  };

  private static final Edges edges = new Edges();

  public static void main(String[] args) throws IOException {
    new TermsEdges(edges).run();
    new ExceptionEdges(edges).run();
    new NumberEdges(edges).run();
    new QuestionsEdges(edges).run();
    new DocumentsEdges(edges).run();
    new MatchingEdges(edges).run();
    new StateEdges(edges).run();
    headings();
    seenWithinTheLastCall();
    everySentence();
    edges.check.end();
  }

  private static void headings() throws IOException {
    String program = Files.readString(PROGRAM);
    int at = 0;
    for (String[] heading : HEADINGS) {
      edges.sentence("Terms", "the interface says: ---- " + heading[0] + ".");
      int says = program.indexOf("// ---- " + heading[0] + "\n", at);
      edges.due("the heading stands behind the one before", true, says >= at);
      at = says;
      for (int i = 1; i < heading.length; i++) {
        int call = program.indexOf(" " + heading[i] + "(", at);
        edges.due(heading[i] + " stands behind it, in order", true, call > at);
        at = call;
      }
    }
  }

  /** An object is only promised 512 calls: those of Seen, and of what comes before, are fewer. */
  private static void seenWithinTheLastCall() {
    edges.check.promise("Seen");
    int calls = Seen.of(Made.full()).size() + Made.CALLS;
    edges.due("the calls are at most 512", true, calls <= LAST_CALL);
  }

  private static void everySentence() throws IOException {
    edges.check.promise("every sentence of the document");
    if (!Files.exists(DOCUMENT)) {
      System.out.println("no " + DOCUMENT + ": the quotes are not compared with it");
      return;
    }
    Sentences document = new Sentences(DOCUMENT);
    for (String[] quote : edges.quotes()) {
      edges.due(quote[0] + " says '" + quote[1] + "'", true, document.has(quote[0], quote[1]));
    }
    List<String[]> quotes = edges.quotes();
    quotes.addAll(List.of(ASK_NOTHING));
    edges.check.due("sentences without a test", "[]", document.without(quotes).toString());
  }
}
