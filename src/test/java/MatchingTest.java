/** Promises 10 to 16. */
public final class MatchingTest {
  private static final int MAX = Integer.MAX_VALUE;
  private static final int MIN = Integer.MIN_VALUE;
  private static final Check check = new Check();

  static final int[][] NO_RANGES = {
    {-1, 0}, {-1, -1}, {0, 64}, {64, 64}, {5, 4}, {63, 0}, {64, 0}, {0, -1},
    {MIN, MAX}, {MAX, MAX}, {MIN, 5}, {5, MAX}, {5, MIN}
  };

  public static void main(String[] args) {
    satisfies();
    plainAndBarred();
    productsAreSums();
    matching();
    matchingByIndex();
    indexCountsEachTestOfAName();
    indexFindsWhatHasNoPlainTests();
    indexForgetsTheLastDocument();
    everyRangeByIndex();
    sizeOf();
    withSize();
    pieces();
    pieceAt();
    pieceAtRefuses();
    everyRangeInPieces();
    check.end();
  }

  private static void satisfies() {
    check.promise("10 satisfies");
    AlertIndex x = Made.withQuestion();
    check.due("satisfies(0) without products", false, x.satisfies(0));
    x.product(0);
    check.due("satisfies(0) by a product without tests", true, x.satisfies(0));
    int[] none = {1, -1, MAX, MIN};
    for (int question : none) {
      check.noIndex("satisfies(" + question + ")", () -> x.satisfies(question));
    }
    x.drop(0);
    check.noIndex("satisfies(0) dropped", () -> x.satisfies(0));
  }

  private static void plainAndBarred() {
    check.promise("10 satisfies, plain and barred");
    int[] values = {AlertIndex.NONE, 0, 9, 10, 15, 20, 21, 63};
    AlertIndex plain = Made.withTest(1, 10, 20, false);
    AlertIndex barred = Made.withTest(1, 10, 20, true);
    for (int value : values) {
      boolean lies = value >= 10 && value <= 20;
      plain.set(1, value);
      barred.set(1, value);
      check.due("satisfies(0) plain, " + value, lies, plain.satisfies(0));
      check.due("satisfies(0) barred, " + value, !lies, barred.satisfies(0));
      check.due("matchingByIndex() barred, " + value, lies ? 0 : 1, barred.matchingByIndex());
    }
    AlertIndex whole = Made.withTest(0, 0, 63, false);
    check.due("satisfies(0) of all values, without one", false, whole.satisfies(0));
  }

  private static void productsAreSums() {
    check.promise("10 satisfies, products");
    AlertIndex x = Made.withTest(0, 1, 5, false);
    x.test(0, 1, 1, 5, false);
    x.product(0);
    x.test(0, 2, 7, 7, false);
    x.set(0, 3);
    check.due("one test of two", false, x.satisfies(0));
    x.set(2, 7);
    check.due("the second product", true, x.satisfies(0));
    x.set(1, 5);
    x.set(2, 8);
    check.due("the first product", true, x.satisfies(0));
    x.set(0, 6);
    check.due("no product", false, x.satisfies(0));
  }

  private static AlertIndex threeQuestions() {
    AlertIndex x = Made.withTest(0, 0, 31, false);
    x.question();
    x.product(1);
    x.test(1, 0, 32, 63, false);
    x.question();
    x.product(2);
    x.test(2, 0, 16, 47, false);
    x.test(2, 1, 3, 3, true);
    return x;
  }

  private static void matching() {
    check.promise("11 matching");
    AlertIndex x = threeQuestions();
    int[][] due = {{-1, 0}, {0, 1}, {15, 1}, {16, 5}, {31, 5}, {32, 6}, {47, 6}, {48, 2}, {63, 2}};
    for (int[] of : due) {
      x.set(0, of[0]);
      check.due("matching() of " + of[0], of[1], x.matching());
    }
    x.set(0, 40);
    x.set(1, 3);
    check.due("matching() barred", 2, x.matching());
    x.drop(1);
    check.due("matching() dropped", 0, x.matching());
    check.due("alerts(0) as before", 0, x.alerts(0));
  }

  private static void matchingByIndex() {
    check.promise("12 matchingByIndex");
    AlertIndex x = threeQuestions();
    int[][] due = {{-1, 0}, {0, 1}, {15, 1}, {16, 5}, {31, 5}, {32, 6}, {47, 6}, {48, 2}, {63, 2}};
    for (int[] of : due) {
      x.set(0, of[0]);
      check.due("matchingByIndex() of " + of[0], of[1], x.matchingByIndex());
    }
    x.set(0, 40);
    x.set(1, 3);
    check.due("matchingByIndex() barred", 2, x.matchingByIndex());
    x.drop(1);
    check.due("matchingByIndex() dropped", 0, x.matchingByIndex());
  }

  private static void indexCountsEachTestOfAName() {
    check.promise("12 matchingByIndex counts each test of a name");
    AlertIndex x = Made.withTest(3, 0, 63, false);
    x.test(0, 3, 0, 63, false);
    x.test(0, 3, 5, 9, false);
    x.test(0, 4, 5, 9, false);
    x.set(3, 5);
    check.due("three of four", 0, x.matchingByIndex());
    x.set(4, 9);
    check.due("four of four", 1, x.matchingByIndex());
    x.set(3, 10);
    check.due("three of four, otherwise", 0, x.matchingByIndex());
    x.product(0);
    x.test(0, 5, 1, 2, false);
    check.due("another product", 0, x.matchingByIndex());
    x.set(5, 1);
    check.due("another product, true", 1, x.matchingByIndex());
  }

  private static void indexFindsWhatHasNoPlainTests() {
    check.promise("12 matchingByIndex finds what has no plain tests");
    AlertIndex x = Made.withQuestion();
    check.due("without products", 0, x.matchingByIndex());
    x.product(0);
    check.due("without tests", 1, x.matchingByIndex());
    x.test(0, 0, 5, 6, true);
    check.due("with a barred test", 1, x.matchingByIndex());
    x.set(0, 5);
    check.due("with a barred test that is false", 0, x.matchingByIndex());
  }

  private static void indexForgetsTheLastDocument() {
    check.promise("12 matchingByIndex forgets the last document");
    AlertIndex x = Made.withTest(0, 1, 1, false);
    x.test(0, 1, 1, 1, false);
    x.set(0, 1);
    check.due("one of two", 0, x.matchingByIndex());
    check.due("one of two again", 0, x.matchingByIndex());
    x.set(1, 1);
    check.due("two of two", 1, x.matchingByIndex());
    check.due("two of two again", 1, x.matchingByIndex());
    x.set(0, AlertIndex.NONE);
    check.due("the other of two", 0, x.matchingByIndex());
  }

  private static void everyRangeByIndex() {
    check.promise("12 matchingByIndex of every range");
    for (int low = 0; low < 64; low++) {
      for (int high = low; high < 64; high++) {
        AlertIndex x = Made.withTest(2, low, high, false);
        for (int value = 0; value < 64; value++) {
          x.set(2, value);
          int want = value >= low && value <= high ? 1 : 0;
          check.due("range " + low + " to " + high + ", " + value, want, x.matchingByIndex());
        }
      }
    }
  }

  private static void sizeOf() {
    check.promise("13 sizeOf");
    AlertIndex x = Made.withQuestion();
    check.due("sizeOf(0) without products", 0, x.sizeOf(0));
    x.product(0);
    check.due("sizeOf(0) without tests", 0, x.sizeOf(0));
    for (int tests = 1; tests <= 4; tests++) {
      x.test(0, 0, 0, 0, false);
      check.due("sizeOf(0)", tests, x.sizeOf(0));
    }
    x.product(0);
    x.test(0, 0, 0, 0, true);
    check.due("sizeOf(0) with a barred test", 0, x.sizeOf(0));
    x.test(0, 0, 0, 0, false);
    x.test(0, 0, 0, 0, false);
    check.due("sizeOf(0) of the least", 2, x.sizeOf(0));
    x.product(0);
    for (int tests = 0; tests < 3; tests++) {
      x.test(0, 0, 0, 0, false);
    }
    check.due("sizeOf(0) of the least in the middle", 2, x.sizeOf(0));
    int[] none = {1, -1, MAX, MIN};
    for (int question : none) {
      check.noIndex("sizeOf(" + question + ")", () -> x.sizeOf(question));
    }
    x.drop(0);
    check.noIndex("sizeOf(0) dropped", () -> x.sizeOf(0));
  }

  private static void withSize() {
    check.promise("14 withSize");
    AlertIndex x = new AlertIndex();
    for (int q = 0; q < 10; q++) {
      x.question();
      x.product(q);
      for (int tests = 0; tests < q % 5; tests++) {
        x.test(q, 0, 0, 0, false);
      }
    }
    x.question();
    int[] want = {3, 2, 2, 2, 2, 0};
    for (int size = 0; size < want.length; size++) {
      check.due("withSize(" + size + ")", want[size], x.withSize(size));
    }
    x.drop(4);
    x.drop(10);
    check.due("withSize(4) then", 1, x.withSize(4));
    check.due("withSize(0) then", 2, x.withSize(0));
    check.due("withSize(-1)", 0, x.withSize(-1));
    check.due("withSize(MAX)", 0, x.withSize(MAX));
    check.due("withSize(MIN)", 0, x.withSize(MIN));
  }

  private static void pieces() {
    check.promise("15 pieces");
    AlertIndex x = new AlertIndex();
    int[][] due = {{0, 63, 1}, {0, 0, 1}, {63, 63, 1}, {0, 62, 6}, {1, 63, 6}, {1, 62, 10},
        {5, 20, 5}, {31, 32, 2}, {32, 63, 1}, {0, 31, 1}, {16, 47, 2}, {8, 11, 1}, {9, 12, 3}};
    for (int[] of : due) {
      check.due("pieces(" + of[0] + ", " + of[1] + ")", of[2], x.pieces(of[0], of[1]));
    }
    for (int[] of : NO_RANGES) {
      String call = "pieces(" + of[0] + ", " + of[1] + ")";
      check.noArgument(call, () -> x.pieces(of[0], of[1]));
    }
  }

  private static void pieceAt() {
    check.promise("16 pieceAt");
    AlertIndex x = new AlertIndex();
    int[] inner = {101, 202, 404, 808, 1616, 3216, 4808, 5604, 6002, 6201};
    for (int k = 0; k < inner.length; k++) {
      check.due("pieceAt(1, 62, " + k + ")", inner[k], x.pieceAt(1, 62, k));
    }
    check.due("pieceAt(1, 62, 10)", AlertIndex.NONE, x.pieceAt(1, 62, 10));
    check.due("pieceAt(0, 63, 0)", 64, x.pieceAt(0, 63, 0));
    check.due("pieceAt(0, 63, 1)", AlertIndex.NONE, x.pieceAt(0, 63, 1));
    check.due("pieceAt(63, 63, 0)", 6301, x.pieceAt(63, 63, 0));
    check.due("pieceAt(0, 62, 0)", 32, x.pieceAt(0, 62, 0));
    check.due("pieceAt(5, 20, MAX)", AlertIndex.NONE, x.pieceAt(5, 20, MAX));
  }

  private static void pieceAtRefuses() {
    check.promise("16 pieceAt refuses");
    AlertIndex x = new AlertIndex();
    check.noIndex("pieceAt(0, 0, -1)", () -> x.pieceAt(0, 0, -1));
    check.noIndex("pieceAt(0, 0, MIN)", () -> x.pieceAt(0, 0, MIN));
    for (int[] of : NO_RANGES) {
      String call = "pieceAt(" + of[0] + ", " + of[1] + ", ";
      check.noArgument(call + "0)", () -> x.pieceAt(of[0], of[1], 0));
      check.noArgument(call + "99)", () -> x.pieceAt(of[0], of[1], 99));
      check.noIndex(call + "-1)", () -> x.pieceAt(of[0], of[1], -1));
    }
  }

  private static void everyRangeInPieces() {
    check.promise("15 and 16, every range");
    for (int low = 0; low < 64; low++) {
      for (int high = low; high < 64; high++) {
        rangeInPieces(new AlertIndex(), low, high);
      }
    }
  }

  private static void rangeInPieces(AlertIndex x, int low, int high) {
    String range = "(" + low + ", " + high;
    int begin = low;
    int k = 0;
    while (begin <= high) {
      int length = greatestPiece(begin, high);
      check.due("pieceAt" + range + ", " + k + ")", 100 * begin + length, x.pieceAt(low, high, k));
      begin += length;
      k++;
    }
    check.due("pieceAt" + range + ", " + k + ")", AlertIndex.NONE, x.pieceAt(low, high, k));
    check.due("pieces" + range + ")", k, x.pieces(low, high));
  }

  private static int greatestPiece(int begin, int high) {
    int[] lengths = {64, 32, 16, 8, 4, 2, 1};
    for (int length : lengths) {
      if (begin % length == 0 && begin + length <= high + 1) {
        return length;
      }
    }
    throw new IllegalStateException("a piece of length 1 always fits");
  }
}
