/** Objects that several tests begin with. */
final class Made {
  private Made() {
  }

  /** One question without products. */
  static AlertIndex withQuestion() {
    AlertIndex made = new AlertIndex();
    made.question();
    return made;
  }

  /** One question with one product without tests: every document satisfies it. */
  static AlertIndex alwaysTrue(int quiet) {
    AlertIndex made = withQuestion();
    made.product(0);
    made.setQuiet(0, quiet);
    return made;
  }

  /** One question with one product with one test. */
  static AlertIndex withTest(int name, int low, int high, boolean isBarred) {
    AlertIndex made = withQuestion();
    made.product(0);
    made.test(0, name, low, high, isBarred);
    return made;
  }

  /** A question that is always true, with the number 0, that was dropped. */
  static AlertIndex withDropped() {
    AlertIndex made = alwaysTrue(0);
    made.drop(0);
    return made;
  }
}
