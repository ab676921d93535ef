/** The sentence of Terms on the minute at which a question with a batch is quiet no more. */
final class BatchEdges {
  private static final String TERMS = "Terms";

  private final Edges edges;

  BatchEdges(Edges edges) {
    this.edges = edges;
  }

  void run() {
    batchIsSent();
    withoutBatch();
    batchOfOne();
    withoutTheDraft();
    withoutProductsThatAreTrue();
    byTheTimeAsItIsThen();
    anewFromTheEnd();
    onceForABatch();
    eachByItsOwnEnd();
    documentsInTheNextQuiet();
  }

  private void sentence(String words) {
    edges.sentence(TERMS, words);
  }

  /** A question that is always true, with an alert at the minute 0 and a batch of documents. */
  private static AlertIndex gathered(int quiet, int documents) {
    AlertIndex x = Made.alwaysTrue(quiet);
    x.come();
    for (int i = 0; i < documents; i++) {
      x.come();
    }
    return x;
  }

  private void batchIsSent() {
    sentence("When the minute comes at which a question is quiet no more,");
    int[] times = {1, 2, 7, 1000};
    for (int quiet : times) {
      AlertIndex x = gathered(quiet, 3);
      if (quiet > 1) {
        edges.due("advance() to the last minute of " + quiet, 0, x.advance(quiet - 1));
        edges.due("batch(0) in the last minute", 3, x.batch(0));
        edges.due("alerts(0) in the last minute", 1, x.alerts(0));
      }
      edges.due("advance(1) to the end of " + quiet, 1, x.advance(1));
      edges.due("batch(0) at the end", 0, x.batch(0));
      edges.due("alerts(0) at the end", 2, x.alerts(0));
      edges.due("isQuiet(0) anew", true, x.isQuiet(0));
      if (quiet > 1) {
        edges.due("advance() to the last minute anew", 0, x.advance(quiet - 1));
        edges.due("isQuiet(0) in the last minute anew", true, x.isQuiet(0));
      }
      edges.due("advance(1) to the end anew, without a batch", 0, x.advance(1));
      edges.due("isQuiet(0) no more", false, x.isQuiet(0));
    }
  }

  private void withoutBatch() {
    sentence("and its batch is above 0, it raises an alert");
    AlertIndex x = gathered(4, 0);
    edges.due("advance(4)", 0, x.advance(4));
    edges.due("alerts(0)", 1, x.alerts(0));
    edges.due("isQuiet(0)", false, x.isQuiet(0));
    edges.due("come() with nothing before it", 1, x.come());
  }

  private void batchOfOne() {
    sentence("and its batch is above 0, it raises an alert");
    AlertIndex x = gathered(4, 1);
    edges.due("advance(4)", 1, x.advance(4));
    edges.due("alerts(0)", 2, x.alerts(0));
  }

  private void withoutTheDraft() {
    sentence("it raises an alert, its batch is 0");
    AlertIndex x = Made.withTest(0, 5, 5, false);
    x.setQuiet(0, 2);
    x.set(0, 5);
    x.come();
    x.come();
    x.set(0, 6);
    edges.due("satisfies(0)", false, x.satisfies(0));
    edges.due("advance(2), though the draft is another", 1, x.advance(2));
  }

  private void withoutProductsThatAreTrue() {
    sentence("it raises an alert, its batch is 0");
    AlertIndex x = gathered(2, 1);
    x.test(0, 0, 5, 5, false);
    edges.due("satisfies(0)", false, x.satisfies(0));
    edges.due("advance(2), though no document satisfies it now", 1, x.advance(2));
    edges.due("batch(0)", 0, x.batch(0));
  }

  private void byTheTimeAsItIsThen() {
    sentence("and it is quiet anew, by its quiet time as it is then.");
    int[] times = {0, 1, 2, 5, 9, 1000};
    for (int then : times) {
      AlertIndex x = gathered(5, 1);
      x.setQuiet(0, then);
      edges.due("advance(4), by the time before " + then, 0, x.advance(4));
      edges.due("advance(1), by the time before " + then, 1, x.advance(1));
      edges.due("isQuiet(0) anew by " + then, then > 0, x.isQuiet(0));
      if (then > 1) {
        x.advance(then - 1);
        edges.due("isQuiet(0) in the last minute by " + then, true, x.isQuiet(0));
      }
      x.advance(1);
      edges.due("isQuiet(0) no more by " + then, false, x.isQuiet(0));
    }
  }

  private void anewFromTheEnd() {
    sentence("and it is quiet anew, by its quiet time as it is then.");
    for (int minutes = 5; minutes <= 12; minutes++) {
      AlertIndex x = gathered(5, 2);
      edges.due("advance(" + minutes + ")", 1, x.advance(minutes));
      edges.due("isQuiet(0) at " + minutes + ", anew from 5", minutes < 10, x.isQuiet(0));
      edges.due("come()", minutes < 10 ? 0 : 1, x.come());
      edges.due("advance(5)", minutes < 10 ? 1 : 0, x.advance(5));
    }
  }

  private void onceForABatch() {
    sentence("it raises an alert, its batch is 0");
    AlertIndex x = gathered(1, 9);
    edges.due("advance(1000)", 1, x.advance(1000));
    edges.due("alerts(0)", 2, x.alerts(0));
    edges.due("advance(1000) again", 0, x.advance(1000));
    edges.due("alerts(0) as before", 2, x.alerts(0));
  }

  private void eachByItsOwnEnd() {
    sentence("When the minute comes at which a question is quiet no more,");
    AlertIndex x = new AlertIndex();
    for (int q = 0; q < 20; q++) {
      x.question();
      x.product(q);
      x.setQuiet(q, q + 1);
    }
    x.come();
    x.come();
    for (int q = 0; q < 20; q++) {
      x.setQuiet(q, 100);
    }
    for (int minute = 1; minute <= 20; minute++) {
      edges.due("advance(1) to " + minute, 1, x.advance(1));
      edges.due("alerts(" + (minute - 1) + ")", 2, x.alerts(minute - 1));
    }
    edges.due("advance(1) to 21", 0, x.advance(1));
  }

  private void documentsInTheNextQuiet() {
    sentence("it raises an alert, its batch is 0, and it is quiet anew");
    AlertIndex x = gathered(3, 4);
    x.advance(3);
    edges.due("come() in the minute of the alert", 0, x.come());
    edges.due("batch(0) from 0 on", 1, x.batch(0));
    edges.due("advance(3)", 1, x.advance(3));
    edges.due("alerts(0)", 3, x.alerts(0));
  }
}
