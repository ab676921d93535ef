/** Promises 1 to 6. */
public final class QuestionsTest {
  private static final int MAX = Integer.MAX_VALUE;
  private static final int MIN = Integer.MIN_VALUE;
  private static final Check check = new Check();

  public static void main(String[] args) {
    newObject();
    question();
    product();
    test();
    testRefuses();
    testRefusesInOrder();
    drop();
    dropEndsAll();
    setQuiet();
    setQuietIsForTheNextTime();
    check.end();
  }

  private static void newObject() {
    check.promise("1 a new object");
    AlertIndex x = new AlertIndex();
    check.due("minute()", 0, x.minute());
    check.due("matching()", 0, x.matching());
    check.due("matchingByIndex()", 0, x.matchingByIndex());
    check.due("come()", 0, x.come());
    check.due("withSize(0)", 0, x.withSize(0));
    check.noIndex("sizeOf(0)", () -> x.sizeOf(0));
    for (int name = 0; name < 6; name++) {
      check.due("set(name, 0)", AlertIndex.NONE, x.set(name, 0));
    }
    check.due("NONE", -1, AlertIndex.NONE);
    AlertIndex other = new AlertIndex();
    check.due("set(0, 1) of another object", AlertIndex.NONE, other.set(0, 1));
  }

  private static void question() {
    check.promise("2 question");
    AlertIndex x = new AlertIndex();
    for (int q = 0; q < 20; q++) {
      check.due("question()", q, x.question());
      check.due("sizeOf(q)", 0, x.sizeOf(q));
      check.due("satisfies(q)", false, x.satisfies(q));
      check.due("isQuiet(q)", false, x.isQuiet(q));
      check.due("alerts(q)", 0, x.alerts(q));
      check.due("batch(q)", 0, x.batch(q));
    }
    check.noState("question() of 21", () -> x.question());
    check.due("withSize(0)", 20, x.withSize(0));
    check.noIndex("sizeOf(20)", () -> x.sizeOf(20));
    x.drop(7);
    check.noState("question() of 20 and one dropped", () -> x.question());
    check.due("product(19)", 1, x.product(19));
    check.due("come()", 1 << 19, x.come());
  }

  private static void product() {
    check.promise("3 product");
    AlertIndex x = Made.withQuestion();
    check.due("satisfies(0) without products", false, x.satisfies(0));
    for (int count = 1; count <= 3; count++) {
      check.due("product(0)", count, x.product(0));
      check.due("satisfies(0)", true, x.satisfies(0));
    }
    check.noState("product(0) of 4", () -> x.product(0));
    int[] none = {1, -1, MAX, MIN};
    for (int question : none) {
      check.noIndex("product(" + question + ")", () -> x.product(question));
    }
    x.drop(0);
    check.noIndex("product(0) dropped, with 3", () -> x.product(0));
    check.due("question()", 1, x.question());
    check.due("product(1)", 1, x.product(1));
  }

  private static void test() {
    check.promise("4 test");
    AlertIndex x = Made.withQuestion();
    x.product(0);
    check.due("test 1", 1, x.test(0, 0, 0, 63, false));
    check.due("test 2", 2, x.test(0, 5, 63, 63, true));
    check.due("test 3", 3, x.test(0, 0, 0, 0, false));
    check.due("test 4", 4, x.test(0, 0, 0, 0, false));
    check.noState("test 5", () -> x.test(0, 0, 0, 0, false));
    check.due("sizeOf(0)", 3, x.sizeOf(0));
    x.product(0);
    check.due("test of the last product", 1, x.test(0, 1, 2, 3, true));
    check.due("sizeOf(0) then", 0, x.sizeOf(0));
    x.set(1, 2);
    check.due("matching() by none", 0, x.matching());
    x.set(0, 0);
    check.due("matching() by the first product", 1, x.matching());
    x.set(0, 1);
    x.set(1, 4);
    check.due("matching() by the second product", 1, x.matching());
  }

  private static void testRefuses() {
    check.promise("4 test refuses");
    AlertIndex x = Made.withQuestion();
    check.noState("test(0, 0, 0, 0) without a product", () -> x.test(0, 0, 0, 0, false));
    x.product(0);
    int[][] noIndex = {{1, 0}, {-1, 0}, {MAX, 0}, {MIN, 0}, {0, 6}, {0, -1}, {0, MAX}, {0, MIN}};
    for (int[] of : noIndex) {
      String call = "test(" + of[0] + ", " + of[1] + ", 0, 0)";
      check.noIndex(call, () -> x.test(of[0], of[1], 0, 0, false));
    }
    for (int[] of : MatchingTest.NO_RANGES) {
      String call = "test(0, 0, " + of[0] + ", " + of[1] + ")";
      check.noArgument(call, () -> x.test(0, 0, of[0], of[1], true));
    }
    check.due("satisfies(0) as before", true, x.satisfies(0));
    check.due("matchingByIndex() as before", 1, x.matchingByIndex());
    check.due("test(0, 0, 0, 0) then", 1, x.test(0, 0, 0, 0, false));
  }

  private static void testRefusesInOrder() {
    check.promise("4 test refuses in order");
    AlertIndex x = Made.withQuestion();
    check.noIndex("no question, no range", () -> x.test(1, 0, 5, 4, false));
    check.noIndex("no name, no range, no product", () -> x.test(0, 6, 5, 4, false));
    check.noArgument("no range, no product", () -> x.test(0, 0, 5, 4, false));
    x.product(0);
    for (int i = 0; i < 4; i++) {
      x.test(0, 0, 0, 0, false);
    }
    check.noIndex("no name, 4 tests", () -> x.test(0, -1, 0, 0, false));
    check.noArgument("no range, 4 tests", () -> x.test(0, 0, 0, 64, false));
    x.drop(0);
    check.noIndex("dropped, no range, 4 tests", () -> x.test(0, 0, 0, 64, false));
  }

  private static void drop() {
    check.promise("5 drop");
    AlertIndex x = Made.alwaysTrue(5);
    check.due("come()", 1, x.come());
    x.come();
    x.come();
    check.due("drop(0) with a batch", 2, x.drop(0));
    check.noIndex("drop(0) again", () -> x.drop(0));
    check.due("question()", 1, x.question());
    check.due("drop(1) without one", 0, x.drop(1));
    int[] none = {2, -1, MAX, MIN};
    for (int question : none) {
      check.noIndex("drop(" + question + ")", () -> x.drop(question));
    }
  }

  private static void dropEndsAll() {
    check.promise("5 drop ends all");
    AlertIndex x = Made.alwaysTrue(5);
    x.come();
    x.come();
    x.drop(0);
    check.due("matching()", 0, x.matching());
    check.due("matchingByIndex()", 0, x.matchingByIndex());
    check.due("withSize(0)", 0, x.withSize(0));
    check.due("come()", 0, x.come());
    check.due("advance(5)", 0, x.advance(5));
    check.noIndex("satisfies(0)", () -> x.satisfies(0));
    check.noIndex("setQuiet(0, 1)", () -> x.setQuiet(0, 1));
  }

  private static void setQuiet() {
    check.promise("6 setQuiet");
    AlertIndex x = Made.withQuestion();
    check.due("setQuiet(0, 1000)", 0, x.setQuiet(0, 1000));
    check.due("setQuiet(0, 0)", 1000, x.setQuiet(0, 0));
    check.due("setQuiet(0, 7)", 0, x.setQuiet(0, 7));
    int[] noTimes = {-1, 1001, MAX, MIN};
    for (int minutes : noTimes) {
      check.noArgument("setQuiet(0, " + minutes + ")", () -> x.setQuiet(0, minutes));
      check.noIndex("setQuiet(1, " + minutes + ")", () -> x.setQuiet(1, minutes));
    }
    check.noIndex("setQuiet(-1, 0)", () -> x.setQuiet(-1, 0));
    check.noIndex("setQuiet(MIN, 0)", () -> x.setQuiet(MIN, 0));
    check.due("setQuiet(0, 7) then", 7, x.setQuiet(0, 7));
    x.drop(0);
    check.noIndex("setQuiet(0, -1) dropped", () -> x.setQuiet(0, -1));
  }

  private static void setQuietIsForTheNextTime() {
    check.promise("6 setQuiet is for the next time");
    AlertIndex x = Made.alwaysTrue(0);
    x.come();
    x.setQuiet(0, 9);
    check.due("isQuiet(0) after an alert without", false, x.isQuiet(0));
    x.come();
    x.setQuiet(0, 2);
    check.due("isQuiet(0) by the old time", true, x.isQuiet(0));
    x.come();
    check.due("advance(8)", 0, x.advance(8));
    check.due("isQuiet(0) at 8", true, x.isQuiet(0));
    check.due("advance(1)", 1, x.advance(1));
    x.advance(1);
    check.due("isQuiet(0) at 10, by the new time", true, x.isQuiet(0));
    x.advance(1);
    check.due("isQuiet(0) at 11", false, x.isQuiet(0));
  }
}
