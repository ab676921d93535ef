/** The sentences of the promises 17 to 20, but for those on numbers that NumberEdges holds to. */
final class StateEdges {
  private final Edges edges;

  StateEdges(Edges edges) {
    this.edges = edges;
  }

  void run() {
    minute();
    quietNow();
    quietOrNot();
    alertsOfAQuestion();
    alertsFromNone();
    batchOfAQuestion();
    batchFromNone();
    whatIsAskedChangesNothing();
  }

  private void minute() {
    edges.sentence("Promise 17", "Returns the minute.");
    AlertIndex x = new AlertIndex();
    edges.due("minute()", 0, x.minute());
    x.come();
    edges.due("minute() after a document", 0, x.minute());
    x.advance(1);
    edges.due("minute() after 1", 1, x.minute());
    x.advance(1000);
    edges.due("minute() after 1001", 1001, x.minute());
    edges.check.noArgument("advance(1001)", () -> x.advance(1001));
    edges.check.noArgument("advance(-1)", () -> x.advance(-1));
    edges.check.noArgument("advance(MAX)", () -> x.advance(Edges.MAX));
    edges.due("minute() after refused calls", 1001, x.minute());
  }

  private void quietNow() {
    edges.sentence("Promise 18", "Tells whether a question is quiet now.");
    AlertIndex x = Made.alwaysTrue(2);
    edges.due("isQuiet(0) before any document", false, x.isQuiet(0));
    x.come();
    edges.due("isQuiet(0) in the minute of the alert", true, x.isQuiet(0));
    x.advance(1);
    edges.due("isQuiet(0) in the last minute", true, x.isQuiet(0));
    x.advance(1);
    edges.due("isQuiet(0) a minute later", false, x.isQuiet(0));
    x.come();
    x.come();
    x.advance(2);
    edges.due("isQuiet(0) by its batch", true, x.isQuiet(0));
    x.advance(2);
    edges.due("isQuiet(0) without a batch", false, x.isQuiet(0));
  }

  private void quietOrNot() {
    edges.sentence("Promise 18", "Returns whether it is.");
    AlertIndex x = Made.alwaysTrue(1);
    x.question();
    x.product(1);
    x.question();
    x.setQuiet(2, 9);
    x.come();
    edges.due("isQuiet(0)", true, x.isQuiet(0));
    edges.due("isQuiet(1) with the time 0", false, x.isQuiet(1));
    edges.due("isQuiet(2) without an alert", false, x.isQuiet(2));
  }

  private void alertsOfAQuestion() {
    edges.sentence("Promise 19", "Returns how many alerts a question has raised.");
    AlertIndex x = Made.alwaysTrue(3);
    x.question();
    x.product(1);
    x.come();
    x.come();
    x.come();
    edges.due("alerts(0) in its quiet", 1, x.alerts(0));
    edges.due("alerts(1) without quiet", 3, x.alerts(1));
    x.advance(3);
    edges.due("alerts(0) with that of its batch", 2, x.alerts(0));
    edges.due("alerts(1) as before", 3, x.alerts(1));
  }

  private void alertsFromNone() {
    edges.sentence("Promise 19", "Returns how many.");
    AlertIndex x = Made.withTest(0, 5, 5, false);
    edges.due("alerts(0) at first", 0, x.alerts(0));
    x.come();
    x.advance(1000);
    edges.due("alerts(0) when none satisfied it", 0, x.alerts(0));
    x.set(0, 5);
    x.come();
    edges.due("alerts(0) of the first", 1, x.alerts(0));
  }

  private void batchOfAQuestion() {
    edges.sentence("Promise 20", "Returns the batch of a question.");
    AlertIndex x = Made.alwaysTrue(4);
    x.question();
    x.product(1);
    x.setQuiet(1, 2);
    for (int i = 0; i < 4; i++) {
      x.come();
    }
    edges.due("batch(0)", 3, x.batch(0));
    x.advance(2);
    edges.due("batch(0) before its end", 3, x.batch(0));
    edges.due("batch(1) at its end", 0, x.batch(1));
    x.advance(2);
    edges.due("batch(0) at its end", 0, x.batch(0));
  }

  private void batchFromNone() {
    edges.sentence("Promise 20", "Returns how many documents.");
    AlertIndex x = Made.alwaysTrue(1);
    edges.due("batch(0) at first", 0, x.batch(0));
    x.come();
    edges.due("batch(0): the document that raised an alert isn't in it", 0, x.batch(0));
    for (int documents = 1; documents <= 100; documents++) {
      x.come();
      edges.due("batch(0)", documents, x.batch(0));
    }
    edges.due("batch(0) without products", 0, Made.withQuestion().batch(0));
  }

  private void whatIsAskedChangesNothing() {
    edges.sentence("Promise 17", "Returns the minute.");
    edges.changesNothing("minute", Made::busy, x -> x.minute());
    edges.sentence("Promise 18", "Returns whether it is.");
    edges.changesNothing("isQuiet", Made::busy, x -> x.isQuiet(Made.FOUR_TESTS));
    edges.sentence("Promise 19", "Returns how many");
    edges.changesNothing("alerts", Made::busy, x -> x.alerts(Made.FOUR_TESTS));
    edges.sentence("Promise 20", "Returns how many documents.");
    edges.changesNothing("batch", Made::busy, x -> x.batch(Made.FOUR_TESTS));
  }
}
