/** The sentences of the promises 10 to 16, but for those on numbers that NumberEdges holds to. */
final class MatchingEdges {
  private static final int ALL = (1 << 20) - 1;

  private final Edges edges;

  MatchingEdges(Edges edges) {
    this.edges = edges;
  }

  void run() {
    tellsOfTheDraft();
    tellsWhileQuiet();
    matchingAsASet();
    matchingOfNone();
    indexAsASet();
    indexByPieces();
    indexByHowManyTests();
    indexOfOneName();
    indexOfBarredTests();
    sizeOfOneQuestion();
    sizeFromNoneToFour();
    withSizeOfThoseNotDropped();
    withAnySize();
    withSizeOfAll();
    piecesOfARange();
    piecesFromOneToTen();
    pieceOfARange();
    pieceFromZeroOn();
    pieceOfTheGreatestNumbers();
    noSuchPiece();
    pieceBelowZero();
    whatIsAskedChangesNothing();
  }

  private void tellsOfTheDraft() {
    edges.sentence("Promise 10", "Tells whether the draft satisfies a question.");
    AlertIndex x = Made.withTest(0, 1, 1, false);
    x.question();
    x.product(1);
    x.test(1, 0, 1, 1, true);
    edges.due("satisfies(0) of no values", false, x.satisfies(0));
    edges.due("satisfies(1) of no values", true, x.satisfies(1));
    x.set(0, 1);
    edges.due("satisfies(0)", true, x.satisfies(0));
    edges.due("satisfies(1)", false, x.satisfies(1));
    x.come();
    edges.due("satisfies(0) of the draft that came", true, x.satisfies(0));
  }

  private void tellsWhileQuiet() {
    edges.sentence("Promise 10", "Returns whether it does.");
    AlertIndex x = Made.alwaysTrue(9);
    x.come();
    x.come();
    edges.due("satisfies(0) in its quiet", true, x.satisfies(0));
    edges.due("satisfies(0) without products", false, Made.withQuestion().satisfies(0));
  }

  private static AlertIndex bySides() {
    AlertIndex made = new AlertIndex();
    for (int q = 0; q < 20; q++) {
      made.question();
      made.product(q);
      made.test(q, 0, q % 2 == 0 ? 0 : 32, q % 2 == 0 ? 31 : 63, false);
    }
    return made;
  }

  private void matchingAsASet() {
    edges.sentence("Promise 11", "Returns the questions that the draft satisfies, as a set");
    AlertIndex x = bySides();
    edges.due("matching() without a value", 0, x.matching());
    x.set(0, 31);
    edges.due("matching() of the even ones", 0x55555, x.matching());
    x.set(0, 32);
    edges.due("matching() of the odd ones", 0xAAAAA, x.matching());
    x.drop(19);
    edges.due("matching() without the last", 0x2AAAA, x.matching());
    for (int q = 0; q < 19; q++) {
      x.product(q);
    }
    edges.due("matching() of all but the last", ALL >> 1, x.matching());
    x.drop(0);
    edges.due("matching() without the first", (ALL >> 1) - 1, x.matching());
  }

  private void matchingOfNone() {
    edges.sentence("Promise 11", "Returns the questions that the draft satisfies, as a set");
    edges.due("matching() of no questions", 0, new AlertIndex().matching());
    edges.due("matching() of a dropped one", 0, Made.withDropped().matching());
    AlertIndex x = Made.alwaysTrue(5);
    x.come();
    edges.due("matching() of a quiet one", 1, x.matching());
  }

  private void indexAsASet() {
    edges.sentence("Promise 12", "Returns the same, found by an index of pieces");
    AlertIndex x = bySides();
    edges.due("matchingByIndex() without a value", 0, x.matchingByIndex());
    x.set(0, 31);
    edges.due("matchingByIndex() of the even ones", 0x55555, x.matchingByIndex());
    x.set(0, 32);
    edges.due("matchingByIndex() of the odd ones", 0xAAAAA, x.matchingByIndex());
    x.drop(19);
    edges.due("matchingByIndex() without the last", 0x2AAAA, x.matchingByIndex());
    for (int q = 0; q < 19; q++) {
      x.product(q);
    }
    edges.due("matchingByIndex() of all but the last", ALL >> 1, x.matchingByIndex());
    edges.due("matchingByIndex() of none", 0, new AlertIndex().matchingByIndex());
    edges.due("matchingByIndex() of a dropped one", 0, Made.withDropped().matchingByIndex());
    AlertIndex quiet = Made.alwaysTrue(5);
    quiet.come();
    edges.due("matchingByIndex() of a quiet one", 1, quiet.matchingByIndex());
  }

  /** The first and the last value of each piece of each range, and the values beside the range. */
  private void indexByPieces() {
    edges.sentence("Promise 12", "have a piece in which a value of the draft lies.");
    for (int name = 0; name <= 5; name += 5) {
      for (int low = 0; low < 64; low++) {
        for (int high = low; high < 64; high++) {
          AlertIndex x = Made.withTest(name, low, high, false);
          String of = "matchingByIndex() of " + low + " to " + high + " by ";
          int pieces = x.pieces(low, high);
          for (int k = 0; k < pieces; k++) {
            int piece = x.pieceAt(low, high, k);
            int first = piece / 100;
            int last = first + piece % 100 - 1;
            x.set(name, first);
            edges.due(of + first, 1, x.matchingByIndex());
            x.set(name, last);
            edges.due(of + last, 1, x.matchingByIndex());
          }
          x.set(name, low - 1);
          edges.due(of + (low - 1), 0, x.matchingByIndex());
          x.set(name, high < 63 ? high + 1 : Edges.NONE);
          edges.due(of + (high + 1), 0, x.matchingByIndex());
        }
      }
    }
  }

  private void indexByHowManyTests() {
    edges.sentence("Promise 12", "by how many plain tests of each product");
    for (int tests = 1; tests <= 4; tests++) {
      AlertIndex x = Made.withQuestion();
      x.product(0);
      for (int t = 0; t < tests; t++) {
        x.test(0, t, 10, 20, false);
      }
      for (int t = 0; t < tests; t++) {
        edges.due("matchingByIndex() of " + t + " of " + tests, 0, x.matchingByIndex());
        x.set(t, 20);
      }
      edges.due("matchingByIndex() of all " + tests, 1, x.matchingByIndex());
      edges.due("matchingByIndex() of all again", 1, x.matchingByIndex());
      x.set(tests - 1, 21);
      edges.due("matchingByIndex() of all but the last", 0, x.matchingByIndex());
    }
  }

  private void indexOfOneName() {
    edges.sentence("Promise 12", "by how many plain tests of each product");
    AlertIndex x = Made.withTest(2, 10, 30, false);
    x.test(0, 2, 20, 40, false);
    x.test(0, 2, 20, 40, false);
    x.product(0);
    x.test(0, 2, 50, 50, false);
    x.test(0, 3, 20, 20, false);
    int[][] due = {{10, 0}, {19, 0}, {20, 1}, {30, 1}, {31, 0}, {40, 0}, {50, 0}};
    for (int[] of : due) {
      x.set(2, of[0]);
      edges.due("matchingByIndex() of " + of[0], of[1], x.matchingByIndex());
      edges.due("matching() of " + of[0], of[1], x.matching());
    }
    x.set(2, 50);
    x.set(3, 20);
    edges.due("matchingByIndex() by the other product", 1, x.matchingByIndex());
  }

  private void indexOfBarredTests() {
    edges.sentence("Promise 12", "Returns the same, found by an index of pieces");
    AlertIndex x = Made.withTest(0, 0, 31, false);
    x.test(0, 0, 8, 15, true);
    x.test(0, 1, 5, 5, true);
    int[][] due = {{-1, 0}, {0, 1}, {7, 1}, {8, 0}, {15, 0}, {16, 1}, {31, 1}, {32, 0}};
    for (int[] of : due) {
      x.set(0, of[0]);
      x.set(1, Edges.NONE);
      edges.due("matchingByIndex() of " + of[0], of[1], x.matchingByIndex());
      x.set(1, 5);
      edges.due("matchingByIndex() of " + of[0] + ", barred", 0, x.matchingByIndex());
    }
    AlertIndex four = Made.withQuestion();
    four.product(0);
    for (int t = 0; t < 4; t++) {
      four.test(0, 4, 63, 63, true);
    }
    edges.due("matchingByIndex() of 4 barred tests", 1, four.matchingByIndex());
    four.set(4, 63);
    edges.due("matchingByIndex() of 4 barred tests that are false", 0, four.matchingByIndex());
  }

  private void sizeOfOneQuestion() {
    edges.sentence("Promise 13", "Returns the size of a question.");
    AlertIndex x = Made.withTest(0, 1, 1, false);
    x.question();
    edges.due("sizeOf(0)", 1, x.sizeOf(0));
    edges.due("sizeOf(1) without products", 0, x.sizeOf(1));
    x.product(1);
    edges.due("sizeOf(1) with a product without tests", 0, x.sizeOf(1));
    x.test(1, 0, 1, 1, true);
    edges.due("sizeOf(1) with a barred test", 0, x.sizeOf(1));
    edges.due("sizeOf(0) as before", 1, x.sizeOf(0));
  }

  private void sizeFromNoneToFour() {
    edges.sentence("Promise 13", "Returns the size.");
    AlertIndex x = Made.withQuestion();
    for (int p = 0; p < 3; p++) {
      x.product(0);
      for (int t = 1; t <= 4; t++) {
        x.test(0, 0, 1, 1, false);
        edges.due("sizeOf(0)", t, x.sizeOf(0));
      }
    }
  }

  private static AlertIndex twoOfEachSize() {
    AlertIndex made = new AlertIndex();
    for (int q = 0; q < 10; q++) {
      made.question();
      made.product(q);
      for (int t = 0; t < q % 5; t++) {
        made.test(q, 0, 0, 0, false);
      }
    }
    return made;
  }

  private void withSizeOfThoseNotDropped() {
    edges.sentence("Promise 14", "Returns how many questions that were not dropped have a size.");
    AlertIndex x = twoOfEachSize();
    for (int size = 0; size <= 4; size++) {
      edges.due("withSize(" + size + ")", 2, x.withSize(size));
      x.drop(size);
      edges.due("withSize(" + size + ") then", 1, x.withSize(size));
      x.drop(size + 5);
      edges.due("withSize(" + size + ") at last", 0, x.withSize(size));
    }
    x.question();
    edges.due("withSize(0) of one without products", 1, x.withSize(0));
  }

  private void withAnySize() {
    edges.sentence("Promise 14", "size: any number");
    AlertIndex x = twoOfEachSize();
    int[] sizes = {-1, 5, -4, 64, Edges.MAX, Edges.MIN, 1 << 31, 1 << 16, -2};
    for (int size : sizes) {
      edges.due("withSize(" + size + ")", 0, x.withSize(size));
    }
  }

  private void withSizeOfAll() {
    edges.sentence("Promise 14", "Returns how many.");
    AlertIndex x = new AlertIndex();
    edges.due("withSize(0) of no questions", 0, x.withSize(0));
    for (int q = 1; q <= 20; q++) {
      x.question();
      edges.due("withSize(0) of " + q, q, x.withSize(0));
    }
    for (int q = 0; q < 20; q++) {
      x.product(q);
      for (int t = 0; t < 4; t++) {
        x.test(q, 0, 0, 0, false);
      }
    }
    edges.due("withSize(4) of 20", 20, x.withSize(4));
    edges.due("withSize(0) of 20 with 4", 0, x.withSize(0));
  }

  private void piecesOfARange() {
    edges.sentence("Promise 15", "Returns how many pieces a range is cut into.");
    for (int value = 0; value < 64; value++) {
      AlertIndex x = new AlertIndex();
      edges.due("pieces of the one value " + value, 1, x.pieces(value, value));
      edges.due("pieces up to " + value, Integer.bitCount(value + 1), x.pieces(0, value));
      edges.due("pieces from " + value, Integer.bitCount(64 - value), x.pieces(value, 63));
    }
  }

  private void piecesFromOneToTen() {
    edges.sentence("Promise 15", "Returns how many.");
    int most = 0;
    int mostRanges = 0;
    for (int low = 0; low < 64; low++) {
      AlertIndex x = new AlertIndex();
      for (int high = low; high < 64; high++) {
        int pieces = x.pieces(low, high);
        mostRanges = pieces > most ? 1 : mostRanges + (pieces == most ? 1 : 0);
        most = pieces > most ? pieces : most;
      }
    }
    edges.due("the most pieces of a range", 10, most);
    edges.due("the ranges of the most pieces, 1 to 62 alone", 1, mostRanges);
  }

  private void pieceOfARange() {
    edges.sentence("Promise 16", "Returns a piece of a range.");
    AlertIndex x = new AlertIndex();
    int[] due = {501, 602, 808, 1604, 2001};
    for (int k = 0; k < due.length; k++) {
      edges.due("pieceAt(5, 20, " + k + ")", due[k], x.pieceAt(5, 20, k));
    }
    edges.due("pieceAt(5, 20, 2) once more", 808, x.pieceAt(5, 20, 2));
  }

  private void pieceFromZeroOn() {
    edges.sentence("Promise 16", "k: from 0");
    AlertIndex x = new AlertIndex();
    edges.due("pieceAt(7, 9, 0)", 701, x.pieceAt(7, 9, 0));
    edges.due("pieceAt(7, 9, 1)", 802, x.pieceAt(7, 9, 1));
    edges.due("pieceAt(7, 9, 2)", Edges.NONE, x.pieceAt(7, 9, 2));
  }

  private void pieceOfTheGreatestNumbers() {
    edges.sentence("Promise 16", "Returns 100 times its first value, and its length, added;");
    AlertIndex x = new AlertIndex();
    edges.due("pieceAt(0, 63, 0)", 64, x.pieceAt(0, 63, 0));
    edges.due("pieceAt(0, 0, 0)", 1, x.pieceAt(0, 0, 0));
    edges.due("pieceAt(63, 63, 0)", 6301, x.pieceAt(63, 63, 0));
    edges.due("pieceAt(32, 63, 0)", 3232, x.pieceAt(32, 63, 0));
    edges.due("pieceAt(62, 63, 0)", 6202, x.pieceAt(62, 63, 0));
  }

  private void noSuchPiece() {
    edges.sentence("Promise 16", "NONE if there are not so many.");
    int[][] ranges = {{0, 0}, {0, 63}, {63, 63}, {1, 62}, {5, 20}, {62, 63}, {0, 62}};
    for (int[] ends : ranges) {
      AlertIndex x = new AlertIndex();
      int pieces = x.pieces(ends[0], ends[1]);
      String of = "pieceAt(" + ends[0] + ", " + ends[1] + ", ";
      edges.due(of + "last) has one", true, x.pieceAt(ends[0], ends[1], pieces - 1) > 0);
      int[] behind = {pieces, pieces + 1, 63, 64, 65, 1000, Edges.MAX - 1, Edges.MAX};
      for (int k : behind) {
        edges.due(of + k + ")", Edges.NONE, x.pieceAt(ends[0], ends[1], k));
      }
    }
  }

  private void pieceBelowZero() {
    edges.sentence("Promise 16", "Throws IndexOutOfBoundsException if k is below 0");
    int[] below = {-1, -2, -64, Edges.MIN};
    for (int k : below) {
      edges.refused(Edges.NO_INDEX, "pieceAt(0, 63, " + k + ")", Made::busy,
          x -> x.pieceAt(0, 63, k));
      edges.refused(Edges.NO_INDEX, "pieceAt(63, 63, " + k + ")", AlertIndex::new,
          x -> x.pieceAt(63, 63, k));
    }
  }

  private void whatIsAskedChangesNothing() {
    edges.sentence("Promise 10", "Tells whether");
    edges.changesNothing("satisfies", Made::busy, x -> x.satisfies(Made.FOUR_TESTS));
    edges.sentence("Promise 11", "Returns the questions that the draft satisfies");
    edges.changesNothing("matching", Made::busy, x -> x.matching());
    edges.sentence("Promise 12", "Returns the same");
    edges.changesNothing("matchingByIndex", Made::busy, x -> x.matchingByIndex());
    edges.sentence("Promise 13", "Returns the size");
    edges.changesNothing("sizeOf", Made::busy, x -> x.sizeOf(Made.THREE_PRODUCTS));
    edges.sentence("Promise 14", "Returns how many");
    edges.changesNothing("withSize", Made::busy, x -> x.withSize(1));
    edges.sentence("Promise 15", "Returns how many");
    edges.changesNothing("pieces", Made::busy, x -> x.pieces(1, 62));
    edges.sentence("Promise 16", "Returns a piece");
    edges.changesNothing("pieceAt", Made::busy, x -> x.pieceAt(1, 62, 9));
  }
}
