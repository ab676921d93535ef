/** Objects that several tests begin with. */
final class Made {
  /** How many calls busy() and full() make at most: with those of Seen they stay below 512. */
  static final int CALLS = 110;

  /** What busy() has: a question of each kind, by its number. */
  static final int THREE_PRODUCTS = 0;
  static final int NO_PRODUCTS = 1;
  static final int DROPPED = 2;
  static final int FOUR_TESTS = 3;
  static final int ALWAYS_TRUE = 4;
  static final int DROPPED_EMPTY = 5;
  static final int BEHIND_THE_LAST = 6;

  /** What full() has dropped. */
  static final int DROPPED_OF_FULL = 7;

  private Made() {
  }

  /** One question without products. */
  static AlertIndex withQuestion() {
    AlertIndex made = new AlertIndex();
    made.question();
    return made;
  }

  /** One question with one product without tests: every document satisfies it. */
  static AlertIndex alwaysTrue(int quiet) {
    AlertIndex made = withQuestion();
    made.product(0);
    made.setQuiet(0, quiet);
    return made;
  }

  /** One question with one product with one test. */
  static AlertIndex withTest(int name, int low, int high, boolean isBarred) {
    AlertIndex made = withQuestion();
    made.product(0);
    made.test(0, name, low, high, isBarred);
    return made;
  }

  /** A question that is always true, with the number 0, that was dropped. */
  static AlertIndex withDropped() {
    AlertIndex made = alwaysTrue(0);
    made.drop(0);
    return made;
  }

  /** Two questions are quiet and have batches, two were dropped; the minute is 8. */
  static AlertIndex busy() {
    AlertIndex made = new AlertIndex();
    for (int q = 0; q < BEHIND_THE_LAST; q++) {
      made.question();
    }
    threeProducts(made, THREE_PRODUCTS);
    threeProducts(made, DROPPED);
    made.product(FOUR_TESTS);
    made.test(FOUR_TESTS, 0, 0, 63, false);
    made.test(FOUR_TESTS, 1, 0, 9, true);
    made.test(FOUR_TESTS, 0, 4, 7, false);
    made.test(FOUR_TESTS, 2, 1, 1, true);
    made.product(ALWAYS_TRUE);
    made.setQuiet(THREE_PRODUCTS, 5);
    made.setQuiet(NO_PRODUCTS, 2);
    made.setQuiet(DROPPED, 4);
    made.setQuiet(FOUR_TESTS, 3);
    made.set(0, 5);
    made.set(1, 40);
    made.set(5, 63);
    made.advance(7);
    made.come();
    made.come();
    made.drop(DROPPED);
    made.drop(DROPPED_EMPTY);
    made.advance(1);
    made.come();
    return made;
  }

  private static void threeProducts(AlertIndex made, int question) {
    made.product(question);
    made.test(question, 0, 5, 20, false);
    made.test(question, 1, 3, 3, true);
    made.product(question);
    made.test(question, 5, 63, 63, false);
    made.product(question);
    made.test(question, 2, 0, 0, false);
    made.test(question, 3, 1, 62, false);
    made.test(question, 4, 9, 12, true);
    made.test(question, 0, 5, 5, false);
  }

  /** 20 questions with 0 to 3 products, of which one was dropped. */
  static AlertIndex full() {
    AlertIndex made = new AlertIndex();
    for (int q = 0; q < 20; q++) {
      made.question();
      for (int p = 0; p < q % 4; p++) {
        made.product(q);
      }
      if (q % 4 > 1) {
        made.test(q, q % 6, q, 3 * q, q % 3 == 0);
      }
      made.setQuiet(q, q);
    }
    made.set(2, 13);
    made.set(5, 40);
    made.come();
    made.come();
    made.drop(DROPPED_OF_FULL);
    return made;
  }
}
