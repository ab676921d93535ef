import java.util.ArrayList;
import java.util.Arrays;
import java.util.List;

public final class AlertIndex {
  public static final int NONE = -1;

  private static final int MOST_QUESTIONS = 20;
  private static final int MOST_PRODUCTS = 3;
  private static final int MOST_TESTS = 4;
  private static final int NAMES = 6;
  private static final int VALUES = 64;
  private static final int MOST_MINUTES = 1000;
  private static final int LAST_MINUTE = 1000000;
  private static final int PIECE_FACTOR = 100;

  private final List<Question> questions;
  private final Draft draft;
  private final PieceIndex index;
  private int minute;

  public AlertIndex() {
    questions = new ArrayList<Question>();
    draft = new Draft();
    index = new PieceIndex();
    minute = 0;
  }

  // ---- questions

  public int question() throws IllegalStateException {
    if (questions.size() >= MOST_QUESTIONS) {
      throw new IllegalStateException("there were 20 questions");
    }
    questions.add(new Question());
    return questions.size() - 1;
  }

  public int product(int question) throws IndexOutOfBoundsException, IllegalStateException {
    Question asked = questionOf(question);
    if (asked.products.size() >= MOST_PRODUCTS) {
      throw new IllegalStateException("the question has 3 products");
    }
    asked.products.add(new Product());
    return asked.products.size();
  }

  public int test(int question, int name, int low, int high, boolean isBarred)
      throws IndexOutOfBoundsException, IllegalArgumentException, IllegalStateException {
    Question asked = questionOf(question);
    refuseNoName(name);
    refuseNoRange(low, high);
    Product last = asked.lastProduct();
    if (last == null) {
      throw new IllegalStateException("the question has no product");
    }
    if (last.tests.size() >= MOST_TESTS) {
      throw new IllegalStateException("the last product has 4 tests");
    }
    last.tests.add(new Test(name, low, high, isBarred));
    if (!isBarred) {
      last.plainTests++;
      index.enter(last, name, low, high);
    }
    return last.tests.size();
  }

  public int drop(int question) throws IndexOutOfBoundsException {
    Question asked = questionOf(question);
    asked.isDropped = true;
    return asked.batch;
  }

  public int setQuiet(int question, int minutes)
      throws IndexOutOfBoundsException, IllegalArgumentException {
    Question asked = questionOf(question);
    if (minutes < 0 || minutes > MOST_MINUTES) {
      throw new IllegalArgumentException("a quiet time is 0 to 1000 minutes");
    }
    int before = asked.quietMinutes;
    asked.quietMinutes = minutes;
    return before;
  }

  // ---- documents and time

  public int set(int name, int value) throws IndexOutOfBoundsException, IllegalArgumentException {
    refuseNoName(name);
    if (value != NONE && !isValue(value)) {
      throw new IllegalArgumentException("a value is 0 to 63, or NONE");
    }
    return draft.replace(name, value);
  }

  public int come() {
    int raised = 0;
    for (int q = 0; q < questions.size(); q++) {
      Question asked = questions.get(q);
      if (asked.isSatisfied(draft) && asked.takeDocument(minute)) {
        raised |= 1 << q;
      }
    }
    return raised;
  }

  public int advance(int minutes) throws IllegalArgumentException, IllegalStateException {
    if (minutes < 1 || minutes > MOST_MINUTES) {
      throw new IllegalArgumentException("1 to 1000 minutes pass");
    }
    if (minutes > LAST_MINUTE - minute) {
      throw new IllegalStateException("the minute would be above 1000000");
    }
    minute += minutes;
    int raised = 0;
    for (int q = 0; q < questions.size(); q++) {
      if (questions.get(q).sendBatch(minute)) {
        raised++;
      }
    }
    return raised;
  }

  // ---- matching

  public boolean satisfies(int question) throws IndexOutOfBoundsException {
    return questionOf(question).isSatisfied(draft);
  }

  public int matching() {
    int found = 0;
    for (int q = 0; q < questions.size(); q++) {
      if (questions.get(q).isSatisfied(draft)) {
        found |= 1 << q;
      }
    }
    return found;
  }

  public int matchingByIndex() {
    for (int q = 0; q < questions.size(); q++) {
      questions.get(q).forgetHits();
    }
    index.countHits(draft);
    int found = 0;
    for (int q = 0; q < questions.size(); q++) {
      if (questions.get(q).isSatisfiedByHits(draft)) {
        found |= 1 << q;
      }
    }
    return found;
  }

  public int sizeOf(int question) throws IndexOutOfBoundsException {
    return questionOf(question).leastSize();
  }

  public int withSize(int size) {
    int count = 0;
    for (int q = 0; q < questions.size(); q++) {
      Question asked = questions.get(q);
      if (!asked.isDropped && asked.leastSize() == size) {
        count++;
      }
    }
    return count;
  }

  public int pieces(int low, int high) throws IllegalArgumentException {
    refuseNoRange(low, high);
    int begin = low;
    int count = 0;
    while (begin <= high && count < VALUES) {
      begin += 1 << levelOfPiece(begin, high);
      count++;
    }
    return count;
  }

  public int pieceAt(int low, int high, int k)
      throws IndexOutOfBoundsException, IllegalArgumentException {
    if (k < 0) {
      throw new IndexOutOfBoundsException("pieces are counted from 0");
    }
    refuseNoRange(low, high);
    int begin = low;
    for (int i = 0; i < k && i < VALUES && begin <= high; i++) {
      begin += 1 << levelOfPiece(begin, high);
    }
    if (begin > high) {
      return NONE;
    }
    return PIECE_FACTOR * begin + (1 << levelOfPiece(begin, high));
  }

  // ---- what there is

  public int minute() {
    return minute;
  }

  public boolean isQuiet(int question) throws IndexOutOfBoundsException {
    return questionOf(question).isQuietAt(minute);
  }

  public int alerts(int question) throws IndexOutOfBoundsException {
    return questionOf(question).alerts;
  }

  public int batch(int question) throws IndexOutOfBoundsException {
    return questionOf(question).batch;
  }

  private Question questionOf(int question) {
    if (question < 0 || question >= questions.size()) {
      throw new IndexOutOfBoundsException("there is no such question");
    }
    Question asked = questions.get(question);
    if (asked.isDropped) {
      throw new IndexOutOfBoundsException("the question was dropped");
    }
    return asked;
  }

  private static void refuseNoName(int name) {
    if (name < 0 || name >= NAMES) {
      throw new IndexOutOfBoundsException("a name is 0 to 5");
    }
  }

  private static void refuseNoRange(int low, int high) {
    if (!isValue(low) || !isValue(high) || low > high) {
      throw new IllegalArgumentException("a range is from 0 to 63, its low not above its high");
    }
  }

  private static boolean isValue(int value) {
    return value >= 0 && value < VALUES;
  }

  /** A piece is told by its level, the power of 2 of its length: so no length is divided by. */
  private static int levelOfPiece(int begin, int high) {
    int level = 0;
    for (int twice = 2; twice <= VALUES; twice *= 2) {
      if ((begin & (twice - 1)) != 0 || begin + twice - 1 > high) {
        break;
      }
      level++;
    }
    return level;
  }

  private static final class Draft {
    private final int[] values;

    Draft() {
      values = new int[NAMES];
      Arrays.fill(values, NONE);
    }

    int valueOf(int name) {
      return name >= 0 && name < values.length ? values[name] : NONE;
    }

    int replace(int name, int value) {
      int before = valueOf(name);
      if (name >= 0 && name < values.length) {
        values[name] = value;
      }
      return before;
    }
  }

  private static final class Test {
    private final int name;
    private final int low;
    private final int high;
    final boolean isBarred;

    Test(int name, int low, int high, boolean isBarred) {
      this.name = name;
      this.low = low;
      this.high = high;
      this.isBarred = isBarred;
    }

    boolean isTrue(Draft document) {
      int value = document.valueOf(name);
      boolean lies = value != NONE && value >= low && value <= high;
      return lies != isBarred;
    }
  }

  private static final class Product {
    final List<Test> tests;
    int plainTests;
    int hits;

    Product() {
      tests = new ArrayList<Test>();
      plainTests = 0;
      hits = 0;
    }

    boolean isTrue(Draft document) {
      for (int t = 0; t < tests.size(); t++) {
        if (!tests.get(t).isTrue(document)) {
          return false;
        }
      }
      return true;
    }

    /** The index holds plain tests alone, so the barred ones are looked at one by one. */
    boolean isTrueByHits(Draft document) {
      if (hits != plainTests) {
        return false;
      }
      for (int t = 0; t < tests.size(); t++) {
        Test test = tests.get(t);
        if (test.isBarred && !test.isTrue(document)) {
          return false;
        }
      }
      return true;
    }
  }

  private static final class Question {
    final List<Product> products;
    boolean isDropped;
    int quietMinutes;
    int quietUntil;
    int alerts;
    int batch;

    Question() {
      products = new ArrayList<Product>();
      isDropped = false;
      quietMinutes = 0;
      quietUntil = 0;
      alerts = 0;
      batch = 0;
    }

    Product lastProduct() {
      int count = products.size();
      return count > 0 ? products.get(count - 1) : null;
    }

    int leastSize() {
      int least = MOST_TESTS;
      for (int p = 0; p < products.size(); p++) {
        least = Math.min(least, products.get(p).plainTests);
      }
      return products.isEmpty() ? 0 : least;
    }

    boolean isSatisfied(Draft document) {
      for (int p = 0; !isDropped && p < products.size(); p++) {
        if (products.get(p).isTrue(document)) {
          return true;
        }
      }
      return false;
    }

    boolean isSatisfiedByHits(Draft document) {
      for (int p = 0; !isDropped && p < products.size(); p++) {
        if (products.get(p).isTrueByHits(document)) {
          return true;
        }
      }
      return false;
    }

    void forgetHits() {
      for (int p = 0; p < products.size(); p++) {
        products.get(p).hits = 0;
      }
    }

    boolean isQuietAt(int now) {
      return now < quietUntil;
    }

    /** Tells whether the document raises an alert. */
    boolean takeDocument(int now) {
      if (isQuietAt(now)) {
        batch++;
        return false;
      }
      raiseAlert(now);
      return true;
    }

    /** The alert is due when the quiet ended, which may lie before now, and starts the next one. */
    boolean sendBatch(int now) {
      if (isDropped || batch == 0 || isQuietAt(now)) {
        return false;
      }
      batch = 0;
      raiseAlert(quietUntil);
      return true;
    }

    private void raiseAlert(int when) {
      alerts++;
      quietUntil = when + quietMinutes;
    }
  }

  /**
   * For each name the pieces are the nodes of a tree, numbered from 1 (all values) so that node n
   * has the halves 2n and 2n + 1: the pieces in which a value lies are its leaf and those above.
   */
  private static final class PieceIndex {
    private static final int NODES = 2 * VALUES;

    private final Posting[] firsts;

    PieceIndex() {
      firsts = new Posting[NAMES * NODES];
    }

    void enter(Product product, int name, int low, int high) {
      int begin = low;
      for (int i = 0; i < VALUES && begin <= high; i++) {
        int level = levelOfPiece(begin, high);
        post(product, name * NODES + ((VALUES + begin) >> level));
        begin += 1 << level;
      }
    }

    private void post(Product product, int place) {
      if (place >= 0 && place < firsts.length) {
        firsts[place] = new Posting(product, firsts[place]);
      }
    }

    /** The pieces of one test share no value, so a test hits at most once. */
    void countHits(Draft document) {
      for (int name = 0; name < NAMES; name++) {
        int value = document.valueOf(name);
        if (isValue(value)) {
          hitAbove(name * NODES, VALUES + value);
        }
      }
    }

    private void hitAbove(int tree, int leaf) {
      for (int node = leaf; node > 0; node >>= 1) {
        for (Posting at = firstAt(tree + node); at != null; at = at.next) {
          at.product.hits++;
        }
      }
    }

    private Posting firstAt(int place) {
      return place >= 0 && place < firsts.length ? firsts[place] : null;
    }
  }

  private static final class Posting {
    final Product product;
    final Posting next;

    Posting(Product product, Posting next) {
      this.product = product;
      this.next = next;
    }
  }
}
