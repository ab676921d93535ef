/**
 * The arguments that several calls share: the number of a question, and the ends of a range. Each
 * call has its own sentences on them, and so its own tests.
 */
final class NumberEdges {
  private interface OnQuestion {
    void of(AlertIndex x, int question);
  }

  private interface OnRange {
    void of(AlertIndex x, int low, int high);
  }

  private static final int[][] RANGES = {
    {0, 0}, {0, 1}, {0, 63}, {1, 62}, {20, 20}, {20, 21}, {62, 63}, {63, 63}
  };
  private static final int[] NO_VALUES = {-1, 64, Edges.MIN, Edges.MAX, -2, 100};

  private final Edges edges;

  NumberEdges(Edges edges) {
    this.edges = edges;
  }

  void run() {
    question("Promise 3", "product", (x, q) -> x.product(q));
    question("Promise 4", "test", (x, q) -> x.test(q, 0, 0, 63, false));
    question("Promise 5", "drop", (x, q) -> x.drop(q));
    question("Promise 6", "setQuiet", (x, q) -> x.setQuiet(q, 1));
    question("Promise 10", "satisfies", (x, q) -> x.satisfies(q));
    question("Promise 13", "sizeOf", (x, q) -> x.sizeOf(q));
    question("Promise 18", "isQuiet", (x, q) -> x.isQuiet(q));
    question("Promise 19", "alerts", (x, q) -> x.alerts(q));
    question("Promise 20", "batch", (x, q) -> x.batch(q));
    range("Promise 4", "test", NumberEdges::plainTest);
    range("Promise 4", "test barred", NumberEdges::barredTest);
    range("Promise 15", "pieces", (x, low, high) -> x.pieces(low, high));
    range("Promise 16", "pieceAt", (x, low, high) -> x.pieceAt(low, high, 0));
    range("Promise 16", "pieceAt far", (x, low, high) -> x.pieceAt(low, high, Edges.MAX));
  }

  private static void plainTest(AlertIndex x, int low, int high) {
    x.test(Made.ALWAYS_TRUE, 0, low, high, false);
  }

  private static void barredTest(AlertIndex x, int low, int high) {
    x.test(Made.ALWAYS_TRUE, 5, low, high, true);
  }

  private void question(String promise, String call, OnQuestion made) {
    edges.sentence(promise, "question: a question that was not dropped");
    int[] taken = {0, 1, 6, 8, 19};
    for (int q : taken) {
      edges.taken(call + " of " + q, NumberEdges::fullWithRoom, x -> made.of(x, q));
    }
    noQuestion(call, NumberEdges::fullWithRoom, Made.DROPPED_OF_FULL, made);
    edges.sentence(promise, "Throws IndexOutOfBoundsException if there is no such question");
    int[] never = {-1, -2, 20, 21, Edges.MIN, Edges.MAX};
    for (int q : never) {
      noQuestion(call + " in a new object,", AlertIndex::new, q, made);
      noQuestion(call + " with some questions,", Made::busy, q, made);
      noQuestion(call + " with 20 questions,", Made::full, q, made);
    }
    noQuestion(call + " in a new object,", AlertIndex::new, 0, made);
    noQuestion(call + " behind the last,", Made::busy, Made.BEHIND_THE_LAST, made);
    noQuestion(call + " behind the only one,", Made::withQuestion, 1, made);
    noQuestion(call + " dropped,", Made::busy, Made.DROPPED, made);
    noQuestion(call + " dropped without products,", Made::busy, Made.DROPPED_EMPTY, made);
    noQuestion(call + " dropped, the only one,", Made::withDropped, 0, made);
  }

  private void noQuestion(String call, Edges.Start start, int question, OnQuestion made) {
    edges.refused(Edges.NO_INDEX, call + " of " + question, start, x -> made.of(x, question));
  }

  /** 20 questions with a product each, one dropped: each call on a question has room there. */
  private static AlertIndex fullWithRoom() {
    AlertIndex made = new AlertIndex();
    for (int q = 0; q < 20; q++) {
      made.question();
      made.product(q);
    }
    made.drop(Made.DROPPED_OF_FULL);
    return made;
  }

  private void range(String promise, String call, OnRange made) {
    edges.sentence(promise, "low: 0 to 63");
    for (int[] ends : RANGES) {
      edges.taken(told(call, ends[0], ends[1]), Made::busy, x -> made.of(x, ends[0], ends[1]));
    }
    for (int low : NO_VALUES) {
      noRange(call, low, 63, made);
      noRange(call, low, low, made);
    }
    edges.sentence(promise, "high: low to 63");
    for (int high : NO_VALUES) {
      noRange(call, 0, high, made);
      noRange(call, 63, high, made);
    }
    int[][] crossed = {{1, 0}, {21, 20}, {63, 62}, {63, 0}, {32, 31}};
    for (int[] ends : crossed) {
      noRange(call, ends[0], ends[1], made);
    }
    edges.sentence(promise, "Throws IllegalArgumentException if low or high is out of range");
    int[][] both = {{-1, -1}, {-1, 64}, {64, 64}, {64, -1}, {-2, -1}, {65, 64},
        {Edges.MIN, Edges.MAX}, {Edges.MAX, Edges.MIN}, {Edges.MAX, Edges.MAX}};
    for (int[] ends : both) {
      noRange(call, ends[0], ends[1], made);
    }
  }

  private void noRange(String call, int low, int high, OnRange made) {
    String told = told(call, low, high);
    edges.refused(Edges.NO_ARGUMENT, told, Made::busy, x -> made.of(x, low, high));
  }

  private static String told(String call, int low, int high) {
    return call + " of " + low + " to " + high;
  }
}
