/** The section Terms, but for its sentences on exceptions, and the number of calls of an object. */
final class TermsEdges {
  private static final String TERMS = "Terms";
  private static final int[] VALUES = {
    Edges.NONE, 0, 1, 8, 9, 10, 11, 19, 20, 21, 31, 32, 62, 63
  };
  private static final int[][] RANGES = {
    {0, 0}, {0, 63}, {63, 63}, {10, 20}, {9, 9}, {0, 31}, {32, 63}, {1, 62}
  };

  private final Edges edges;

  TermsEdges(Edges edges) {
    this.edges = edges;
  }

  void run() {
    lastCallAfterDocuments();
    lastCallAfterGathering();
    lastCallAfterMinutes();
    lastCallOfTheGreatestObject();
    onceInAWindow();
    names();
    values();
    draftComesNext();
    draftAtFirst();
    questionNumbers();
    twentyQuestions();
    threeProducts();
    fourTests();
    plainTests();
    barredTests();
    products();
    productWithoutTests();
    questions();
    sizeOfProduct();
    sizeOfQuestion();
    pieces();
    time();
    quietAtFirst();
    raises();
    gathers();
    quietMinutes();
    new BatchEdges(edges).run();
    constant();
  }

  private void lastCallAfterDocuments() {
    edges.sentence("What it is", "An object is used for at most 512 calls after it has been made;");
    AlertIndex x = new AlertIndex();
    x.question();
    x.product(0);
    for (int call = 3; call <= 511; call++) {
      edges.due("come() as call " + call, 1, x.come());
    }
    edges.due("alerts(0) as call 512", 509, x.alerts(0));
  }

  private void lastCallAfterGathering() {
    edges.sentence("What it is", "An object is used for at most 512 calls after it has been made;");
    AlertIndex x = new AlertIndex();
    x.question();
    x.product(0);
    x.setQuiet(0, 1);
    edges.due("come() as call 4", 1, x.come());
    for (int call = 5; call <= 511; call++) {
      edges.due("come() as call " + call, 0, x.come());
    }
    edges.due("drop(0) as call 512", 507, x.drop(0));
  }

  private void lastCallAfterMinutes() {
    edges.sentence("What it is", "An object is used for at most 512 calls after it has been made;");
    AlertIndex x = new AlertIndex();
    for (int call = 1; call <= 511; call++) {
      edges.due("advance(1000) as call " + call, 0, x.advance(1000));
    }
    edges.due("minute() as call 512", 511000, x.minute());
  }

  /** 20 questions of 3 products of 4 tests of 10 pieces: 320 calls, and no object holds more. */
  private void lastCallOfTheGreatestObject() {
    edges.sentence("What it is", "An object is used for at most 512 calls after it has been made;");
    AlertIndex x = new AlertIndex();
    for (int q = 0; q < 20; q++) {
      x.question();
      for (int p = 1; p <= 3; p++) {
        edges.due("product(" + q + ")", p, x.product(q));
        for (int t = 1; t <= 4; t++) {
          edges.due("test(" + q + ")", t, x.test(q, t, 1, 62, false));
        }
      }
    }
    for (int name = 1; name <= 4; name++) {
      edges.due("matchingByIndex() without name " + name, 0, x.matchingByIndex());
      x.set(name, name == 2 ? 62 : 1);
    }
    for (int call = 329; call <= 511; call++) {
      edges.due("matchingByIndex() as call " + call, (1 << 20) - 1, x.matchingByIndex());
    }
    edges.due("come() as call 512", (1 << 20) - 1, x.come());
  }

  private void onceInAWindow() {
    edges.sentence(TERMS, "A document raises just the questions that it satisfies, each once");
    AlertIndex x = Made.withTest(0, 5, 5, false);
    x.setQuiet(0, 3);
    x.question();
    x.product(1);
    x.test(1, 0, 6, 6, false);
    x.set(0, 5);
    edges.due("come() in the window's first minute", 1, x.come());
    edges.due("come() again", 0, x.come());
    edges.due("advance(2)", 0, x.advance(2));
    edges.due("come() in its last minute", 0, x.come());
    edges.due("alerts(0) in the window", 1, x.alerts(0));
    edges.due("advance(1) to the next window", 1, x.advance(1));
    edges.due("come() in the next window", 0, x.come());
    edges.due("alerts(0) in two windows", 2, x.alerts(0));
    edges.due("alerts(1), never satisfied", 0, x.alerts(1));
    edges.due("batch(1), never satisfied", 0, x.batch(1));
  }

  private void names() {
    edges.sentence(TERMS, "There are the names 0 to 5.");
    for (int name = 0; name <= 5; name++) {
      AlertIndex x = Made.withTest(name, 30, 40, false);
      for (int other = 0; other <= 5; other++) {
        x.set(other, other == name ? 35 : 50);
      }
      edges.due("matching() by name " + name, 1, x.matching());
      edges.due("matchingByIndex() by name " + name, 1, x.matchingByIndex());
      for (int other = 0; other <= 5; other++) {
        x.set(other, other == name ? 50 : 35);
      }
      edges.due("matching() by the names other than " + name, 0, x.matching());
      edges.due("matchingByIndex() by the names other than " + name, 0, x.matchingByIndex());
    }
    int[] none = {-1, 6, Edges.MAX, Edges.MIN};
    for (int name : none) {
      edges.refused(Edges.NO_INDEX, "set(" + name + ", 0)", Made::busy, x -> x.set(name, 0));
      edges.refused(Edges.NO_INDEX, "test of the name " + name, Made::busy,
          x -> x.test(Made.ALWAYS_TRUE, name, 0, 63, false));
    }
  }

  private void values() {
    edges.sentence(TERMS, "A document has, for each name, a value, 0 to 63, or none.");
    for (int name = 0; name <= 5; name++) {
      AlertIndex x = Made.withTest(name, 0, 63, false);
      edges.due("come() with none of name " + name, 0, x.come());
      x.set(name, 0);
      edges.due("come() with 0 of name " + name, 1, x.come());
      x.set(name, 63);
      edges.due("come() with 63 of name " + name, 1, x.come());
      x.set(name, Edges.NONE);
      edges.due("come() with none again of name " + name, 0, x.come());
    }
  }

  private void draftComesNext() {
    edges.sentence(TERMS, "The draft is the document that comes next;");
    AlertIndex x = Made.withTest(3, 7, 7, false);
    x.set(3, 7);
    x.set(3, 8);
    edges.due("come() with the value that was set last", 0, x.come());
    x.set(3, 7);
    edges.due("batch(0) and alerts(0) before the draft comes", 0, x.batch(0) + x.alerts(0));
    edges.due("come() then", 1, x.come());
  }

  private void draftAtFirst() {
    edges.sentence(TERMS, "at first it has no values.");
    AlertIndex x = new AlertIndex();
    for (int name = 0; name <= 5; name++) {
      x.question();
      x.product(name);
      x.test(name, name, 0, 63, false);
    }
    edges.due("matching()", 0, x.matching());
    edges.due("matchingByIndex()", 0, x.matchingByIndex());
    edges.due("come()", 0, x.come());
  }

  private void questionNumbers() {
    edges.sentence(TERMS, "Questions are numbered from 0;");
    AlertIndex x = new AlertIndex();
    edges.due("the first question()", 0, x.question());
    edges.due("the second question()", 1, x.question());
    x.drop(1);
    edges.due("question() after the last was dropped", 2, x.question());
    x.drop(0);
    edges.due("question() after the first was dropped", 3, x.question());
  }

  private void twentyQuestions() {
    edges.sentence(TERMS, "there can be 20, those that were dropped counted.");
    AlertIndex x = new AlertIndex();
    for (int q = 0; q < 20; q++) {
      edges.due("question()", q, x.question());
      x.drop(q);
    }
    edges.check.noState("question() when all 20 were dropped", () -> x.question());
    edges.due("withSize(0)", 0, x.withSize(0));
    edges.refused(Edges.NO_STATE, "question() of 20", Made::full, made -> made.question());
  }

  private void threeProducts() {
    edges.sentence(TERMS, "A question has up to 3 products;");
    AlertIndex x = Made.withQuestion();
    for (int p = 1; p <= 3; p++) {
      edges.due("product(0)", p, x.product(0));
      x.test(0, p, p, p, false);
    }
    edges.check.noState("product(0) of 4", () -> x.product(0));
    for (int p = 1; p <= 3; p++) {
      x.set(p, p);
      edges.due("matching() by product " + p, 1, x.matching());
      edges.due("matchingByIndex() by product " + p, 1, x.matchingByIndex());
      x.set(p, Edges.NONE);
      edges.due("matching() by no product", 0, x.matching());
    }
  }

  private void fourTests() {
    edges.sentence(TERMS, "a product has up to 4 tests.");
    for (int p = 1; p <= 3; p++) {
      AlertIndex x = Made.withQuestion();
      for (int i = 0; i < p; i++) {
        x.product(0);
        for (int t = 1; t <= 4; t++) {
          edges.due("test " + t + " of product " + p, t, x.test(0, t, t, t, t % 2 == 0));
        }
      }
      edges.check.noState("test 5, plain", () -> x.test(0, 0, 0, 0, false));
      edges.check.noState("test 5, barred", () -> x.test(0, 0, 0, 0, true));
    }
  }

  private void plainTests() {
    edges.sentence(TERMS, "a plain test is true for a document that has a value of that name in");
    for (int[] range : RANGES) {
      AlertIndex x = Made.withTest(4, range[0], range[1], false);
      for (int value : VALUES) {
        x.set(4, value);
        boolean lies = value != Edges.NONE && value >= range[0] && value <= range[1];
        oneMatch(x, range[0] + " to " + range[1] + " plain, of " + value, lies);
      }
    }
  }

  private void barredTests() {
    edges.sentence(TERMS, "a barred one is true otherwise, also if the document has no value");
    for (int[] range : RANGES) {
      AlertIndex x = Made.withTest(4, range[0], range[1], true);
      for (int value : VALUES) {
        x.set(4, value);
        boolean lies = value != Edges.NONE && value >= range[0] && value <= range[1];
        oneMatch(x, range[0] + " to " + range[1] + " barred, of " + value, !lies);
      }
    }
  }

  private void oneMatch(AlertIndex x, String of, boolean isSatisfied) {
    edges.due("satisfies(0) " + of, isSatisfied, x.satisfies(0));
    edges.due("matching() " + of, isSatisfied ? 1 : 0, x.matching());
    edges.due("matchingByIndex() " + of, isSatisfied ? 1 : 0, x.matchingByIndex());
    edges.due("come() " + of, isSatisfied ? 1 : 0, x.come());
  }

  private void products() {
    edges.sentence(TERMS, "A product is true if all its tests are");
    for (int falseOnes = 0; falseOnes < 16; falseOnes++) {
      AlertIndex x = Made.withQuestion();
      x.product(0);
      for (int t = 0; t < 4; t++) {
        boolean isBarred = t >= 2;
        x.test(0, t, 20, 40, isBarred);
        boolean isFalse = (falseOnes >> t & 1) == 1;
        x.set(t, isBarred == isFalse ? 30 : 41);
      }
      oneMatch(x, "with the false tests " + falseOnes, falseOnes == 0);
    }
  }

  private void productWithoutTests() {
    edges.sentence(TERMS, "(so one without tests always is).");
    AlertIndex x = Made.alwaysTrue(0);
    oneMatch(x, "without tests, of no values", true);
    for (int name = 0; name <= 5; name++) {
      x.set(name, 63);
    }
    oneMatch(x, "without tests, of all values", true);
  }

  private void questions() {
    edges.sentence(TERMS, "A question is satisfied if some of its products is true.");
    oneMatch(Made.withQuestion(), "without products", false);
    for (int trueOnes = 0; trueOnes < 8; trueOnes++) {
      AlertIndex x = Made.withQuestion();
      for (int p = 0; p < 3; p++) {
        x.product(0);
        x.test(0, p, 63, 63, false);
        x.set(p, (trueOnes >> p & 1) == 1 ? 63 : 62);
      }
      oneMatch(x, "with the true products " + trueOnes, trueOnes != 0);
    }
  }

  private void sizeOfProduct() {
    edges.sentence(TERMS, "The size of a product is how many plain tests it has;");
    for (int barredOnes = 0; barredOnes < 16; barredOnes++) {
      AlertIndex x = Made.withQuestion();
      x.product(0);
      int plain = 0;
      for (int t = 0; t < 4; t++) {
        boolean isBarred = (barredOnes >> t & 1) == 1;
        x.test(0, 2, 5, 5, isBarred);
        plain += isBarred ? 0 : 1;
        edges.due("sizeOf(0) with the barred tests " + barredOnes, plain, x.sizeOf(0));
      }
      edges.due("withSize(" + plain + ")", 1, x.withSize(plain));
    }
  }

  private void sizeOfQuestion() {
    edges.sentence(TERMS, "the size of a question is the least one of its products, or 0 without");
    edges.due("sizeOf(0) without products", 0, Made.withQuestion().sizeOf(0));
    int[][] sizes = {{4}, {0}, {4, 4, 4}, {1, 2, 3}, {3, 1, 2}, {2, 3, 1}, {4, 0, 4}, {4, 3}};
    for (int[] ofProducts : sizes) {
      AlertIndex x = Made.withQuestion();
      int least = 4;
      for (int size : ofProducts) {
        x.product(0);
        for (int t = 0; t < size; t++) {
          x.test(0, 0, 0, 0, false);
        }
        least = size < least ? size : least;
        edges.due("sizeOf(0) when the last has " + size, least, x.sizeOf(0));
      }
    }
  }

  private void pieces() {
    edges.sentence(TERMS, "A range is cut into pieces from its lower end on");
    int[] lengths = {1, 2, 4, 8, 16, 32, 64};
    for (int length : lengths) {
      for (int begin = 0; begin < 64; begin += length) {
        cut(begin, begin + length - 1, 100 * begin + length);
      }
    }
    cut(0, 2, 2, 201);
    cut(1, 2, 101, 201);
    cut(1, 4, 101, 202, 401);
    cut(3, 8, 301, 404, 801);
    cut(31, 32, 3101, 3201);
    cut(0, 62, 32, 3216, 4808, 5604, 6002, 6201);
    cut(1, 63, 101, 202, 404, 808, 1616, 3232);
    cut(1, 62, 101, 202, 404, 808, 1616, 3216, 4808, 5604, 6002, 6201);
    cut(0, 63, 64);
  }

  private void cut(int low, int high, int... due) {
    AlertIndex x = new AlertIndex();
    edges.due("pieces(" + low + ", " + high + ")", due.length, x.pieces(low, high));
    for (int k = 0; k < due.length; k++) {
      String call = "pieceAt(" + low + ", " + high + ", " + k + ")";
      edges.due(call, due[k], x.pieceAt(low, high, k));
    }
  }

  private void time() {
    edges.sentence(TERMS, "Time is told in minutes, from 0.");
    AlertIndex x = new AlertIndex();
    edges.due("minute()", 0, x.minute());
    x.advance(1);
    edges.due("minute() after the first", 1, x.minute());
  }

  private void quietAtFirst() {
    edges.sentence(TERMS, "A question has a quiet time, 0 minutes at first.");
    AlertIndex x = Made.withQuestion();
    x.product(0);
    edges.due("come()", 1, x.come());
    edges.due("isQuiet(0)", false, x.isQuiet(0));
    edges.due("come() again", 1, x.come());
    edges.due("setQuiet(0, 4)", 0, x.setQuiet(0, 4));
  }

  private void raises() {
    edges.sentence(TERMS, "each question that it satisfies and that is not quiet raises an alert,");
    AlertIndex x = Made.withTest(0, 1, 1, false);
    x.setQuiet(0, 2);
    edges.due("come(), not satisfied, not quiet", 0, x.come());
    edges.due("isQuiet(0) without an alert", false, x.isQuiet(0));
    edges.due("alerts(0) without an alert", 0, x.alerts(0));
    x.set(0, 1);
    edges.due("come(), satisfied, not quiet", 1, x.come());
    edges.due("isQuiet(0)", true, x.isQuiet(0));
    edges.due("alerts(0)", 1, x.alerts(0));
    edges.due("batch(0)", 0, x.batch(0));
    x.advance(2);
    edges.due("come() when it is quiet no more", 1, x.come());
    edges.due("isQuiet(0) anew", true, x.isQuiet(0));
  }

  private void gathers() {
    edges.sentence(TERMS, "each one that it satisfies and that is quiet adds 1 to its batch.");
    AlertIndex x = Made.withTest(0, 1, 1, false);
    x.setQuiet(0, 2);
    x.set(0, 1);
    x.come();
    edges.due("come(), satisfied, quiet", 0, x.come());
    edges.due("batch(0)", 1, x.batch(0));
    edges.due("alerts(0)", 1, x.alerts(0));
    x.set(0, 2);
    edges.due("come(), not satisfied, quiet", 0, x.come());
    edges.due("batch(0) as before", 1, x.batch(0));
    x.set(0, 1);
    x.advance(1);
    edges.due("come() in the last quiet minute", 0, x.come());
    edges.due("batch(0) of two", 2, x.batch(0));
    edges.due("the quiet isn't longer by that: advance(1)", 1, x.advance(1));
  }

  private void quietMinutes() {
    edges.sentence(TERMS, "A question that becomes quiet at a minute is quiet in it");
    int[] times = {0, 1, 2, 3, 999, 1000};
    for (int quiet : times) {
      for (int start = 0; start <= 2; start += 2) {
        AlertIndex x = Made.alwaysTrue(quiet);
        if (start > 0) {
          x.advance(start);
        }
        x.come();
        String of = "isQuiet(0) of " + quiet + " from " + start;
        edges.due(of + ", in it", quiet > 0, x.isQuiet(0));
        if (quiet > 1) {
          x.advance(quiet - 1);
          edges.due(of + ", in the last minute", true, x.isQuiet(0));
        }
        x.advance(1);
        edges.due(of + ", a minute later", false, x.isQuiet(0));
        edges.due("come() then", 1, x.come());
      }
    }
  }

  private void constant() {
    edges.sentence(TERMS, "The constants: NONE = -1: None.");
    edges.due("NONE", -1, AlertIndex.NONE);
  }
}
