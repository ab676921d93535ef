/** The sentences of the promises 1 to 6, but for those on numbers that NumberEdges holds to. */
final class QuestionsEdges {
  private final Edges edges;

  QuestionsEdges(Edges edges) {
    this.edges = edges;
  }

  void run() {
    noQuestions();
    minuteZero();
    draftWithoutValues();
    objectsApart();
    questionIsEmpty();
    questionNumber();
    questionRefused();
    productIsEmpty();
    productCount();
    productRefused();
    testOfTheLastProduct();
    testNames();
    testIsBarred();
    testCount();
    testNoName();
    testNoProduct();
    testFourTests();
    dropped();
    dropAnswersItsBatch();
    droppedStaysAway();
    quietTimeForTheNextTime();
    quietTimeOfOneQuestion();
    minutesTaken();
    quietTimeBefore();
    minutesRefused();
  }

  private void noQuestions() {
    edges.sentence("Promise 1", "AlertIndex(): No questions;");
    AlertIndex x = new AlertIndex();
    edges.check.noIndex("alerts(0)", () -> x.alerts(0));
    for (int size = 0; size <= 4; size++) {
      edges.due("withSize(" + size + ")", 0, x.withSize(size));
    }
    edges.due("matching()", 0, x.matching());
    edges.due("matchingByIndex()", 0, x.matchingByIndex());
    edges.due("come()", 0, x.come());
    edges.due("advance(1000)", 0, x.advance(1000));
    edges.due("question()", 0, x.question());
  }

  private void minuteZero() {
    edges.sentence("Promise 1", "the minute 0;");
    edges.due("minute()", 0, new AlertIndex().minute());
  }

  private void draftWithoutValues() {
    edges.sentence("Promise 1", "the draft has no values.");
    AlertIndex x = new AlertIndex();
    for (int name = 0; name <= 5; name++) {
      edges.due("set(" + name + ", NONE)", Edges.NONE, x.set(name, Edges.NONE));
    }
  }

  private void objectsApart() {
    edges.sentence("Promise 1", "AlertIndex(): No questions;");
    AlertIndex one = Made.full();
    AlertIndex other = new AlertIndex();
    edges.due("question() of another object", 0, other.question());
    edges.due("minute() of another object", 0, other.minute());
    edges.due("set(2, 0) of another object", Edges.NONE, other.set(2, 0));
    edges.due("set(2, 0) of the first", 13, one.set(2, 0));
  }

  private void questionIsEmpty() {
    edges.sentence("Promise 2", "Adds a question without products.");
    AlertIndex x = new AlertIndex();
    for (int q = 0; q < 20; q++) {
      x.question();
      edges.due("satisfies(" + q + ")", false, x.satisfies(q));
      edges.due("sizeOf(" + q + ")", 0, x.sizeOf(q));
      edges.due("isQuiet(" + q + ")", false, x.isQuiet(q));
      edges.due("alerts(" + q + ")", 0, x.alerts(q));
      edges.due("batch(" + q + ")", 0, x.batch(q));
      edges.due("setQuiet(" + q + ", 0)", 0, x.setQuiet(q, 0));
      int asked = q;
      edges.check.noState("test(" + q + ", ..)", () -> x.test(asked, 0, 0, 63, false));
      edges.due("product(" + q + ")", 1, x.product(q));
    }
  }

  private void questionNumber() {
    edges.sentence("Promise 2", "Returns its number.");
    AlertIndex x = new AlertIndex();
    for (int q = 0; q < 20; q++) {
      edges.due("question()", q, x.question());
      x.product(q);
      edges.due("matching() with it", (1 << (q + 1)) - 1, x.matching());
    }
  }

  private void questionRefused() {
    edges.sentence("Promise 2", "Throws IllegalStateException if there were 20");
    edges.refused(Edges.NO_STATE, "question() of 20, one dropped", Made::full, x -> x.question());
    edges.refused(Edges.NO_STATE, "question() of 20, all dropped", QuestionsEdges::twentyDropped,
        x -> x.question());
    edges.refused(Edges.NO_STATE, "question() of 20, none dropped", QuestionsEdges::twenty,
        x -> x.question());
    AlertIndex x = new AlertIndex();
    for (int q = 0; q < 19; q++) {
      x.question();
    }
    edges.due("question() of 19", 19, x.question());
  }

  private static AlertIndex twenty() {
    AlertIndex made = new AlertIndex();
    for (int q = 0; q < 20; q++) {
      made.question();
    }
    return made;
  }

  private static AlertIndex twentyDropped() {
    AlertIndex made = twenty();
    for (int q = 0; q < 20; q++) {
      made.drop(q);
    }
    return made;
  }

  private void productIsEmpty() {
    edges.sentence("Promise 3", "Adds a product without tests to a question.");
    AlertIndex x = twenty();
    x.product(19);
    edges.due("matching()", 1 << 19, x.matching());
    edges.due("matchingByIndex()", 1 << 19, x.matchingByIndex());
    edges.due("sizeOf(19)", 0, x.sizeOf(19));
    for (int tests = 1; tests <= 4; tests++) {
      edges.due("test(19, ..)", tests, x.test(19, 0, 5, 5, false));
    }
    x.product(19);
    edges.due("sizeOf(19) with a second one", 0, x.sizeOf(19));
    edges.due("test(19, ..) of the second one", 1, x.test(19, 0, 5, 5, false));
  }

  private void productCount() {
    edges.sentence("Promise 3", "Returns how many products it has then.");
    AlertIndex x = twenty();
    for (int count = 1; count <= 3; count++) {
      edges.due("product(0)", count, x.product(0));
      edges.due("product(19)", count, x.product(19));
    }
    edges.due("product(1)", 1, x.product(1));
  }

  private void productRefused() {
    edges.sentence("Promise 3", "Throws IllegalStateException if it has 3");
    edges.refused(Edges.NO_STATE, "product() of 3 with tests", Made::busy,
        x -> x.product(Made.THREE_PRODUCTS));
    edges.refused(Edges.NO_STATE, "product() of 3 without tests", Made::full, x -> x.product(3));
    AlertIndex x = Made.full();
    edges.due("product(2) of 2", 3, x.product(2));
    edges.due("product(1) beside one with 3", 2, x.product(1));
  }

  private void testOfTheLastProduct() {
    edges.sentence("Promise 4", "Adds a test to the last product of a question.");
    AlertIndex x = Made.withTest(0, 1, 1, false);
    x.product(0);
    x.test(0, 1, 2, 2, false);
    x.product(0);
    x.test(0, 2, 3, 3, false);
    x.test(0, 3, 4, 4, false);
    x.set(2, 3);
    edges.due("matching() by the first test of the last", 0, x.matching());
    x.set(3, 4);
    edges.due("matching() by the last product", 1, x.matching());
    x.set(2, Edges.NONE);
    x.set(1, 2);
    edges.due("matching() by the second product", 1, x.matching());
    x.set(1, Edges.NONE);
    x.set(0, 1);
    edges.due("matching() by the first product", 1, x.matching());
    edges.due("matchingByIndex() by the first product", 1, x.matchingByIndex());
  }

  private void testNames() {
    edges.sentence("Promise 4", "name: 0 to 5");
    int[] first = {0, 5};
    for (int name : first) {
      AlertIndex x = Made.alwaysTrue(0);
      edges.due("test(0, " + name + ", 9, 9)", 1, x.test(0, name, 9, 9, false));
      edges.due("matching() without a value", 0, x.matching());
      x.set(name, 9);
      edges.due("matching() by it", 1, x.matching());
      edges.due("matchingByIndex() by it", 1, x.matchingByIndex());
    }
  }

  private void testIsBarred() {
    edges.sentence("Promise 4", "isBarred: whether it is barred");
    AlertIndex x = Made.withTest(0, 9, 9, true);
    x.question();
    x.product(1);
    x.test(1, 0, 9, 9, false);
    edges.due("matching() without a value", 1, x.matching());
    edges.due("matchingByIndex() without a value", 1, x.matchingByIndex());
    x.set(0, 9);
    edges.due("matching() of the value", 2, x.matching());
    edges.due("matchingByIndex() of the value", 2, x.matchingByIndex());
    x.set(0, 10);
    edges.due("matching() of another value", 1, x.matching());
    edges.due("sizeOf(0)", 0, x.sizeOf(0));
    edges.due("sizeOf(1)", 1, x.sizeOf(1));
  }

  private void testCount() {
    edges.sentence("Promise 4", "Returns how many tests the product has then.");
    AlertIndex x = Made.withQuestion();
    for (int product = 1; product <= 3; product++) {
      x.product(0);
      for (int tests = 1; tests <= 4; tests++) {
        boolean isBarred = (tests + product) % 2 == 0;
        edges.due("test(0, ..)", tests, x.test(0, 0, 7, 7, isBarred));
      }
    }
  }

  private void testNoName() {
    edges.sentence("Promise 4", "if there is no such question or name");
    int[] none = {-1, 6, 7, Edges.MAX, Edges.MIN};
    for (int name : none) {
      edges.refused(Edges.NO_INDEX, "test of the name " + name, Made::busy,
          x -> x.test(Made.ALWAYS_TRUE, name, 0, 63, false));
      edges.refused(Edges.NO_INDEX, "test of the name " + name + ", barred", Made::busy,
          x -> x.test(Made.ALWAYS_TRUE, name, 63, 63, true));
    }
  }

  private void testNoProduct() {
    edges.sentence("Promise 4", "Throws IllegalStateException if the question has no product");
    edges.refused(Edges.NO_STATE, "test of the only question", Made::withQuestion,
        x -> x.test(0, 0, 0, 63, false));
    edges.refused(Edges.NO_STATE, "test of one beside others", Made::busy,
        x -> x.test(Made.NO_PRODUCTS, 5, 63, 63, true));
    edges.refused(Edges.NO_STATE, "test of one beside others, plain", Made::full,
        x -> x.test(16, 0, 0, 0, false));
  }

  private void testFourTests() {
    edges.sentence("Promise 4", "or its last one has 4 tests");
    edges.refused(Edges.NO_STATE, "test 5 of the only product", Made::busy,
        x -> x.test(Made.FOUR_TESTS, 0, 0, 63, false));
    edges.refused(Edges.NO_STATE, "test 5 of the only product, barred", Made::busy,
        x -> x.test(Made.FOUR_TESTS, 0, 5, 5, true));
    edges.refused(Edges.NO_STATE, "test 5 of the third product", Made::busy,
        x -> x.test(Made.THREE_PRODUCTS, 5, 0, 0, false));
    AlertIndex x = Made.busy();
    x.product(Made.FOUR_TESTS);
    edges.due("test 1 of a new product", 1, x.test(Made.FOUR_TESTS, 0, 0, 0, false));
  }

  private void dropped() {
    edges.sentence("Promise 5", "Drops a question, with its batch.");
    AlertIndex x = Made.busy();
    int others = x.matching() & ~(1 << Made.THREE_PRODUCTS);
    edges.due("withSize(1) before", 1, x.withSize(1));
    x.drop(Made.THREE_PRODUCTS);
    edges.due("withSize(1)", 0, x.withSize(1));
    edges.due("matching()", others, x.matching());
    edges.due("matchingByIndex()", others, x.matchingByIndex());
    edges.due("come()", 1 << Made.ALWAYS_TRUE, x.come());
    edges.due("advance(10), by the other batch alone", 1, x.advance(10));
    edges.due("come() after all quiets", others, x.come());
    edges.check.noIndex("batch(0)", () -> x.batch(Made.THREE_PRODUCTS));
    edges.check.noIndex("alerts(0)", () -> x.alerts(Made.THREE_PRODUCTS));
    edges.due("batch(3) of another", 0, x.batch(Made.FOUR_TESTS));
  }

  private void dropAnswersItsBatch() {
    edges.sentence("Promise 5", "Returns its batch.");
    for (int documents = 0; documents <= 3; documents++) {
      AlertIndex x = Made.alwaysTrue(1000);
      x.come();
      for (int i = 0; i < documents; i++) {
        x.come();
      }
      edges.due("drop(0) with " + documents, documents, x.drop(0));
    }
    AlertIndex sent = Made.alwaysTrue(1);
    sent.come();
    sent.come();
    sent.advance(1);
    edges.due("drop(0) after its batch was sent", 0, sent.drop(0));
    edges.due("drop(0) without products", 0, Made.withQuestion().drop(0));
  }

  private void droppedStaysAway() {
    edges.sentence("Promise 5", "Drops a question, with its batch.");
    AlertIndex x = Made.withDropped();
    edges.due("question() after it", 1, x.question());
    x.product(1);
    edges.due("come()", 2, x.come());
    edges.due("withSize(0)", 1, x.withSize(0));
    edges.check.noIndex("drop(0) again", () -> x.drop(0));
    edges.due("drop(1)", 0, x.drop(1));
    edges.due("come() of no question", 0, x.come());
  }

  private void quietTimeForTheNextTime() {
    edges.sentence("Promise 6", "for when it becomes quiet next.");
    int[] times = {0, 2, 4, 1000};
    for (int then : times) {
      AlertIndex x = Made.alwaysTrue(3);
      x.come();
      x.setQuiet(0, then);
      edges.due("isQuiet(0), then " + then, true, x.isQuiet(0));
      x.advance(2);
      edges.due("isQuiet(0) at 2, then " + then, true, x.isQuiet(0));
      x.advance(1);
      edges.due("isQuiet(0) at 3, then " + then, false, x.isQuiet(0));
      x.come();
      edges.due("isQuiet(0) with the new time " + then, then > 0, x.isQuiet(0));
    }
    AlertIndex x = Made.alwaysTrue(0);
    x.come();
    x.setQuiet(0, 5);
    edges.due("isQuiet(0), in the minute of an alert without quiet", false, x.isQuiet(0));
    edges.due("come()", 1, x.come());
  }

  private void quietTimeOfOneQuestion() {
    edges.sentence("Promise 6", "Sets the quiet time of a question,");
    AlertIndex x = twenty();
    x.setQuiet(0, 3);
    x.setQuiet(19, 4);
    edges.due("setQuiet(1, 0) of another", 0, x.setQuiet(1, 0));
    edges.due("setQuiet(18, 0) of another", 0, x.setQuiet(18, 0));
    edges.due("setQuiet(0, 0)", 3, x.setQuiet(0, 0));
    edges.due("setQuiet(19, 0)", 4, x.setQuiet(19, 0));
  }

  private void minutesTaken() {
    edges.sentence("Promise 6", "minutes: 0 to 1000");
    AlertIndex x = Made.alwaysTrue(5);
    edges.due("setQuiet(0, 0)", 5, x.setQuiet(0, 0));
    edges.due("come()", 1, x.come());
    edges.due("isQuiet(0)", false, x.isQuiet(0));
    edges.due("setQuiet(0, 1000)", 0, x.setQuiet(0, 1000));
    edges.due("come() then", 1, x.come());
    x.advance(999);
    edges.due("isQuiet(0) at 999", true, x.isQuiet(0));
    x.advance(1);
    edges.due("isQuiet(0) at 1000", false, x.isQuiet(0));
  }

  private void quietTimeBefore() {
    edges.sentence("Promise 6", "Returns the time before.");
    AlertIndex x = Made.withQuestion();
    int[] times = {1000, 1, 1, 999, 0, 0};
    int before = 0;
    for (int time : times) {
      edges.due("setQuiet(0, " + time + ")", before, x.setQuiet(0, time));
      before = time;
    }
  }

  private void minutesRefused() {
    edges.sentence("Promise 6", "Throws IllegalArgumentException if minutes is out of range");
    int[] none = {-1, -2, 1001, 1002, Edges.MAX, Edges.MIN};
    for (int minutes : none) {
      edges.refused(Edges.NO_ARGUMENT, "setQuiet(0, " + minutes + ")", Made::busy,
          x -> x.setQuiet(Made.THREE_PRODUCTS, minutes));
      edges.refused(Edges.NO_ARGUMENT, "setQuiet(19, " + minutes + ")", Made::full,
          x -> x.setQuiet(19, minutes));
    }
  }
}
