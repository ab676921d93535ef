/** Promises 7 to 9. */
public final class DocumentsTest {
  private static final int MAX = Integer.MAX_VALUE;
  private static final int MIN = Integer.MIN_VALUE;
  private static final Check check = new Check();

  public static void main(String[] args) {
    set();
    setRefuses();
    come();
    comeGathers();
    comeKeepsTheDraft();
    advance();
    advancePastTheEndOfTheQuiet();
    advanceRaisesOnceForABatch();
    advanceCountsAllQuestions();
    advanceRefuses();
    check.end();
  }

  private static void set() {
    check.promise("7 set");
    AlertIndex x = Made.withTest(2, 10, 20, false);
    check.due("set(2, 0)", AlertIndex.NONE, x.set(2, 0));
    check.due("set(2, 63)", 0, x.set(2, 63));
    check.due("set(2, 15)", 63, x.set(2, 15));
    check.due("satisfies(0)", true, x.satisfies(0));
    check.due("set(3, 40)", AlertIndex.NONE, x.set(3, 40));
    check.due("satisfies(0) by another name", true, x.satisfies(0));
    check.due("set(2, NONE)", 15, x.set(2, AlertIndex.NONE));
    check.due("satisfies(0) without a value", false, x.satisfies(0));
    check.due("set(2, NONE) again", AlertIndex.NONE, x.set(2, AlertIndex.NONE));
    check.due("set(3, 41)", 40, x.set(3, 41));
  }

  private static void setRefuses() {
    check.promise("7 set refuses");
    AlertIndex x = new AlertIndex();
    x.set(0, 9);
    int[] noNames = {6, -1, MAX, MIN};
    for (int name : noNames) {
      check.noIndex("set(" + name + ", 0)", () -> x.set(name, 0));
      check.noIndex("set(" + name + ", 64)", () -> x.set(name, 64));
    }
    int[] noValues = {64, -2, MAX, MIN};
    for (int value : noValues) {
      check.noArgument("set(0, " + value + ")", () -> x.set(0, value));
    }
    check.due("set(0, 1) then", 9, x.set(0, 1));
  }

  private static void come() {
    check.promise("8 come");
    AlertIndex x = new AlertIndex();
    for (int q = 0; q < 20; q++) {
      x.question();
      x.product(q);
      x.test(q, 0, q, q + 1, false);
    }
    check.due("come() without a value", 0, x.come());
    x.set(0, 19);
    check.due("come() of two", 1 << 19 | 1 << 18, x.come());
    x.set(0, 0);
    check.due("come() of one", 1, x.come());
    check.due("come() again, without quiet", 1, x.come());
    check.due("alerts(0)", 2, x.alerts(0));
    check.due("alerts(1)", 0, x.alerts(1));
    check.due("batch(0)", 0, x.batch(0));
    check.due("minute()", 0, x.minute());
  }

  private static void comeGathers() {
    check.promise("8 come gathers");
    AlertIndex x = Made.withTest(0, 1, 1, false);
    x.setQuiet(0, 2);
    x.question();
    x.product(1);
    x.set(0, 1);
    check.due("come()", 3, x.come());
    check.due("come() in the quiet", 2, x.come());
    check.due("batch(0)", 1, x.batch(0));
    x.set(0, 2);
    check.due("come() of another document", 2, x.come());
    check.due("batch(0) as before", 1, x.batch(0));
    x.set(0, 1);
    x.advance(1);
    check.due("come() in the last quiet minute", 2, x.come());
    check.due("batch(0) of two", 2, x.batch(0));
    check.due("alerts(0)", 1, x.alerts(0));
    check.due("alerts(1)", 4, x.alerts(1));
    check.due("advance(1)", 1, x.advance(1));
    check.due("advance(2)", 0, x.advance(2));
    check.due("come() after the quiet", 3, x.come());
    check.due("isQuiet(0)", true, x.isQuiet(0));
  }

  private static void comeKeepsTheDraft() {
    check.promise("8 come keeps the draft");
    AlertIndex x = Made.withTest(4, 8, 8, false);
    x.set(4, 8);
    check.due("come()", 1, x.come());
    check.due("matching()", 1, x.matching());
    check.due("set(4, 9)", 8, x.set(4, 9));
    check.due("come() then", 0, x.come());
  }

  private static void advance() {
    check.promise("9 advance");
    AlertIndex x = Made.alwaysTrue(3);
    check.due("advance(1)", 0, x.advance(1));
    check.due("minute()", 1, x.minute());
    x.come();
    check.due("advance(3) without a batch", 0, x.advance(3));
    check.due("isQuiet(0)", false, x.isQuiet(0));
    x.come();
    x.come();
    check.due("advance(2)", 0, x.advance(2));
    check.due("batch(0)", 1, x.batch(0));
    check.due("advance(1) to the end", 1, x.advance(1));
    check.due("batch(0) then", 0, x.batch(0));
    check.due("alerts(0)", 3, x.alerts(0));
    check.due("isQuiet(0) anew", true, x.isQuiet(0));
    check.due("minute() then", 7, x.minute());
  }

  private static void advancePastTheEndOfTheQuiet() {
    check.promise("9 advance past the end of the quiet");
    AlertIndex x = Made.alwaysTrue(10);
    x.come();
    x.come();
    check.due("advance(15)", 1, x.advance(15));
    check.due("isQuiet(0), anew from the minute 10", true, x.isQuiet(0));
    x.advance(4);
    check.due("isQuiet(0) at 19", true, x.isQuiet(0));
    x.advance(1);
    check.due("isQuiet(0) at 20", false, x.isQuiet(0));
  }

  private static void advanceRaisesOnceForABatch() {
    check.promise("9 advance raises once for a batch");
    AlertIndex x = Made.alwaysTrue(2);
    for (int i = 0; i < 5; i++) {
      x.come();
    }
    check.due("batch(0)", 4, x.batch(0));
    check.due("advance(1000)", 1, x.advance(1000));
    check.due("alerts(0)", 2, x.alerts(0));
    check.due("isQuiet(0)", false, x.isQuiet(0));
    check.due("come()", 1, x.come());
  }

  private static void advanceCountsAllQuestions() {
    check.promise("9 advance counts all questions");
    AlertIndex x = new AlertIndex();
    for (int q = 0; q < 4; q++) {
      x.question();
      x.product(q);
      x.setQuiet(q, 2 * q);
    }
    x.come();
    x.come();
    check.due("advance(1)", 0, x.advance(1));
    check.due("advance(3)", 2, x.advance(3));
    check.due("advance(1000)", 1, x.advance(1000));
    check.due("alerts(0), never quiet", 2, x.alerts(0));
    check.due("alerts(3)", 2, x.alerts(3));
  }

  /** The last minute lies behind the 512th call; what is asked there keeps the bound in place. */
  private static void advanceRefuses() {
    check.promise("9 advance refuses");
    AlertIndex x = Made.alwaysTrue(1);
    x.come();
    x.come();
    int[] noMinutes = {0, -1, 1001, MAX, MIN};
    for (int minutes : noMinutes) {
      check.noArgument("advance(" + minutes + ")", () -> x.advance(minutes));
    }
    check.due("minute()", 0, x.minute());
    check.due("batch(0)", 1, x.batch(0));
    for (int i = 0; i < 999; i++) {
      x.advance(1000);
    }
    x.advance(999);
    check.noState("advance(2) above the last minute", () -> x.advance(2));
    check.noArgument("advance(1001) above the last minute", () -> x.advance(1001));
    check.due("minute() below the last", 999999, x.minute());
    check.due("advance(1)", 0, x.advance(1));
    check.noState("advance(1) above the last minute", () -> x.advance(1));
    check.due("minute() the last", 1000000, x.minute());
  }
}
