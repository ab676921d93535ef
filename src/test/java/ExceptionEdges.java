/** The two sentences of Terms on exceptions: which is thrown of two, and that nothing changes. */
final class ExceptionEdges {
  private static final int[] NO_QUESTIONS = {
    -1, Made.DROPPED, Made.DROPPED_EMPTY, Made.BEHIND_THE_LAST, Edges.MAX, Edges.MIN
  };
  private static final int[] NO_NAMES = {-1, 6, Edges.MAX, Edges.MIN};
  private static final int[][] NO_RANGES = {
    {5, 4}, {-1, 0}, {0, 64}, {64, 64}, {-1, -1}, {Edges.MIN, Edges.MAX}
  };

  private final Edges edges;

  ExceptionEdges(Edges edges) {
    this.edges = edges;
  }

  void run() {
    pairsOfProduct();
    testNoQuestionBeforeRange();
    testNoQuestionBeforeState();
    testNoNameBeforeRange();
    testNoNameBeforeState();
    testRangeBeforeState();
    testAllThree();
    pairsOfSetQuiet();
    pairsOfSet();
    pairsOfAdvance();
    pairsOfPieceAt();
    manyRefusedCalls();
    refusedBetweenTaken();
  }

  private void ofSeveral(String promise, String which) {
    edges.sentence("Terms", "the one that its @throws lines name first is thrown.");
    edges.check.promise(promise + ", " + which + ": the exception named first");
  }

  private void pairsOfProduct() {
    ofSeveral("Promise 3", "no such question, and it has 3");
    edges.refused(Edges.NO_INDEX, "product of a dropped one with 3", Made::busy,
        x -> x.product(Made.DROPPED));
    edges.refused(Edges.NO_STATE, "product of one with 3", Made::busy,
        x -> x.product(Made.THREE_PRODUCTS));
  }

  private void testNoQuestionBeforeRange() {
    ofSeveral("Promise 4", "no such question, and no range");
    for (int q : NO_QUESTIONS) {
      for (int[] ends : NO_RANGES) {
        edges.refused(Edges.NO_INDEX, "test of " + q + ", " + ends[0] + " to " + ends[1],
            Made::busy, x -> x.test(q, 0, ends[0], ends[1], false));
      }
    }
  }

  private void testNoQuestionBeforeState() {
    ofSeveral("Promise 4", "no such question, and no product or 4 tests");
    edges.refused(Edges.NO_INDEX, "test of a dropped one with 4 tests", Made::busy,
        x -> x.test(Made.DROPPED, 0, 0, 0, false));
    edges.refused(Edges.NO_INDEX, "test of a dropped one without products", Made::busy,
        x -> x.test(Made.DROPPED_EMPTY, 0, 0, 0, false));
  }

  private void testNoNameBeforeRange() {
    ofSeveral("Promise 4", "no such name, and no range");
    for (int name : NO_NAMES) {
      for (int[] ends : NO_RANGES) {
        edges.refused(Edges.NO_INDEX, "test of name " + name + ", " + ends[0] + " to " + ends[1],
            Made::busy, x -> x.test(Made.ALWAYS_TRUE, name, ends[0], ends[1], true));
      }
    }
  }

  private void testNoNameBeforeState() {
    ofSeveral("Promise 4", "no such name, and no product or 4 tests");
    for (int name : NO_NAMES) {
      edges.refused(Edges.NO_INDEX, "test of name " + name + " without products", Made::busy,
          x -> x.test(Made.NO_PRODUCTS, name, 0, 0, false));
      edges.refused(Edges.NO_INDEX, "test of name " + name + " with 4 tests", Made::busy,
          x -> x.test(Made.FOUR_TESTS, name, 0, 0, false));
    }
  }

  private void testRangeBeforeState() {
    ofSeveral("Promise 4", "no range, and no product or 4 tests");
    for (int[] ends : NO_RANGES) {
      String range = ends[0] + " to " + ends[1];
      edges.refused(Edges.NO_ARGUMENT, "test of " + range + " without products", Made::busy,
          x -> x.test(Made.NO_PRODUCTS, 0, ends[0], ends[1], false));
      edges.refused(Edges.NO_ARGUMENT, "test of " + range + " with 4 tests", Made::busy,
          x -> x.test(Made.FOUR_TESTS, 5, ends[0], ends[1], true));
      edges.refused(Edges.NO_ARGUMENT, "test of " + range + " with 3 products", Made::busy,
          x -> x.test(Made.THREE_PRODUCTS, 5, ends[0], ends[1], true));
    }
  }

  private void testAllThree() {
    ofSeveral("Promise 4", "all three");
    edges.refused(Edges.NO_INDEX, "test of a dropped one, no range, 4 tests", Made::busy,
        x -> x.test(Made.DROPPED, 0, 5, 4, false));
    edges.refused(Edges.NO_INDEX, "test of no name, no range, 4 tests", Made::busy,
        x -> x.test(Made.FOUR_TESTS, 6, 5, 4, false));
    edges.refused(Edges.NO_INDEX, "test of no name, no range, no product", Made::busy,
        x -> x.test(Made.NO_PRODUCTS, -1, 0, 64, false));
  }

  private void pairsOfSetQuiet() {
    ofSeveral("Promise 6", "no such question, and minutes out of range");
    int[] noTimes = {-1, 1001, Edges.MAX, Edges.MIN};
    for (int q : NO_QUESTIONS) {
      for (int minutes : noTimes) {
        edges.refused(Edges.NO_INDEX, "setQuiet(" + q + ", " + minutes + ")", Made::busy,
            x -> x.setQuiet(q, minutes));
      }
    }
  }

  private void pairsOfSet() {
    ofSeveral("Promise 7", "no such name, and value out of range");
    int[] noValues = {-2, 64, Edges.MAX, Edges.MIN};
    for (int name : NO_NAMES) {
      for (int value : noValues) {
        edges.refused(Edges.NO_INDEX, "set(" + name + ", " + value + ")", Made::busy,
            x -> x.set(name, value));
      }
    }
  }

  /** So many minutes are out of range, and lead above the minute 1000000 from every minute. */
  private void pairsOfAdvance() {
    ofSeveral("Promise 9", "minutes out of range, and a minute above 1000000");
    int[] tooMany = {1000000, 1000001, Edges.MAX - 8, Edges.MAX - 7, Edges.MAX};
    for (int minutes : tooMany) {
      edges.refused(Edges.NO_ARGUMENT, "advance(" + minutes + ") at the minute 8", Made::busy,
          x -> x.advance(minutes));
      edges.refused(Edges.NO_ARGUMENT, "advance(" + minutes + ") at 0", Made::full,
          x -> x.advance(minutes));
    }
  }

  private void pairsOfPieceAt() {
    ofSeveral("Promise 16", "k below 0, and no range");
    int[] below = {-1, -2, Edges.MIN};
    for (int k : below) {
      for (int[] ends : NO_RANGES) {
        edges.refused(Edges.NO_INDEX, "pieceAt(" + ends[0] + ", " + ends[1] + ", " + k + ")",
            Made::busy, x -> x.pieceAt(ends[0], ends[1], k));
      }
    }
  }

  private void manyRefusedCalls() {
    edges.sentence("Terms", "A call that throws an exception changes nothing;");
    edges.changesNothing("10 refused calls of each kind", Made::busy, made -> {
      for (int i = 0; i < 10; i++) {
        refusedOfEachKind(made);
      }
    });
  }

  private void refusedOfEachKind(AlertIndex x) {
    String range = Edges.NO_ARGUMENT;
    due(Edges.NO_STATE, "product", () -> x.product(Made.THREE_PRODUCTS));
    due(Edges.NO_STATE, "test", () -> x.test(Made.FOUR_TESTS, 0, 0, 63, false));
    due(Edges.NO_STATE, "test", () -> x.test(Made.NO_PRODUCTS, 0, 0, 63, false));
    due(Edges.NO_INDEX, "drop", () -> x.drop(Made.DROPPED));
    due(range, "setQuiet", () -> x.setQuiet(Made.ALWAYS_TRUE, 1001));
    due(range, "set", () -> x.set(0, 64));
    due(range, "advance", () -> x.advance(1001));
    due(Edges.NO_INDEX, "isQuiet", () -> x.isQuiet(Made.DROPPED));
    due(range, "pieceAt", () -> x.pieceAt(5, 4, 0));
  }

  private void due(String due, String call, Check.Call made) {
    edges.check.due(call, due, Check.thrownBy(made));
  }

  /** The same run twice, once with refused calls behind each call that is taken. */
  private void refusedBetweenTaken() {
    edges.sentence("Terms", "A call that throws an exception changes nothing;");
    AlertIndex plain = Made.busy();
    AlertIndex disturbed = Made.busy();
    for (int round = 0; round < 9; round++) {
      edges.due("set", plain.set(0, round), disturbed.set(0, round));
      refusedOfEachKind(disturbed);
      edges.due("come", plain.come(), disturbed.come());
      refusedOfEachKind(disturbed);
      edges.due("advance", plain.advance(2), disturbed.advance(2));
      edges.due("matchingByIndex", plain.matchingByIndex(), disturbed.matchingByIndex());
    }
  }
}
