/** Promises 17 to 20. */
public final class StateTest {
  private static final int[] NO_QUESTIONS = {1, -1, 20, Integer.MAX_VALUE, Integer.MIN_VALUE};
  private static final Check check = new Check();

  public static void main(String[] args) {
    minute();
    isQuiet();
    alerts();
    batch();
    check.end();
  }

  private static void minute() {
    check.promise("17 minute");
    AlertIndex x = new AlertIndex();
    check.due("minute()", 0, x.minute());
    x.advance(1);
    check.due("minute() then", 1, x.minute());
    x.advance(1000);
    check.due("minute() later", 1001, x.minute());
    x.come();
    check.due("minute() after a document", 1001, x.minute());
  }

  private static void isQuiet() {
    check.promise("18 isQuiet");
    AlertIndex x = Made.alwaysTrue(0);
    x.come();
    check.due("isQuiet(0) with the time 0", false, x.isQuiet(0));
    x.setQuiet(0, 1);
    check.due("isQuiet(0) before an alert", false, x.isQuiet(0));
    x.come();
    check.due("isQuiet(0) in its minute", true, x.isQuiet(0));
    x.advance(1);
    check.due("isQuiet(0) a minute later", false, x.isQuiet(0));
    for (int question : NO_QUESTIONS) {
      check.noIndex("isQuiet(" + question + ")", () -> x.isQuiet(question));
    }
    AlertIndex dropped = Made.withDropped();
    check.noIndex("isQuiet(0) dropped", () -> dropped.isQuiet(0));
  }

  private static void alerts() {
    check.promise("19 alerts");
    AlertIndex x = Made.alwaysTrue(4);
    check.due("alerts(0)", 0, x.alerts(0));
    x.come();
    check.due("alerts(0) after a document", 1, x.alerts(0));
    x.come();
    check.due("alerts(0) in the quiet", 1, x.alerts(0));
    x.advance(3);
    check.due("alerts(0) in the last quiet minute", 1, x.alerts(0));
    x.advance(1);
    check.due("alerts(0) with the batch", 2, x.alerts(0));
    x.advance(4);
    check.due("alerts(0) without a batch", 2, x.alerts(0));
    for (int question : NO_QUESTIONS) {
      check.noIndex("alerts(" + question + ")", () -> x.alerts(question));
    }
    AlertIndex dropped = Made.withDropped();
    check.noIndex("alerts(0) dropped", () -> dropped.alerts(0));
  }

  private static void batch() {
    check.promise("20 batch");
    AlertIndex x = Made.alwaysTrue(2);
    check.due("batch(0)", 0, x.batch(0));
    x.come();
    check.due("batch(0) after an alert", 0, x.batch(0));
    for (int documents = 1; documents <= 3; documents++) {
      x.come();
      check.due("batch(0) in the quiet", documents, x.batch(0));
    }
    x.advance(2);
    check.due("batch(0) after the quiet", 0, x.batch(0));
    x.come();
    check.due("batch(0) in the next quiet", 1, x.batch(0));
    for (int question : NO_QUESTIONS) {
      check.noIndex("batch(" + question + ")", () -> x.batch(question));
    }
    AlertIndex dropped = Made.withDropped();
    check.noIndex("batch(0) dropped", () -> dropped.batch(0));
  }
}
