/** The sentences of the promises 7 to 9. */
final class DocumentsEdges {
  private static final int ALL = (1 << 20) - 1;

  private final Edges edges;

  DocumentsEdges(Edges edges) {
    this.edges = edges;
  }

  void run() {
    setsTheDraft();
    setNames();
    setValues();
    valueBefore();
    setNoName();
    setNoValue();
    comesAsADocument();
    keepsItsValues();
    alertsAsASet();
    minutesPass();
    minutesTaken();
    alertsAreCounted();
    batchesAreNotDocuments();
    minutesRefused();
    aboveTheLastMinute();
  }

  private void setsTheDraft() {
    edges.sentence("Promise 7", "Sets a value of the draft.");
    AlertIndex x = Made.withTest(1, 30, 30, false);
    x.set(1, 30);
    edges.due("satisfies(0)", true, x.satisfies(0));
    x.set(0, 31);
    x.set(2, 31);
    edges.due("satisfies(0) when others were set", true, x.satisfies(0));
    x.set(1, 31);
    edges.due("satisfies(0) when it was set", false, x.satisfies(0));
    edges.due("come()", 0, x.come());
  }

  private void setNames() {
    edges.sentence("Promise 7", "name: 0 to 5");
    AlertIndex x = new AlertIndex();
    for (int name = 0; name <= 5; name++) {
      edges.due("set(" + name + ", ..)", Edges.NONE, x.set(name, 10 + name));
    }
    for (int name = 0; name <= 5; name++) {
      edges.due("set(" + name + ", ..) again", 10 + name, x.set(name, 0));
    }
  }

  private void setValues() {
    edges.sentence("Promise 7", "value: 0 to 63, or NONE");
    int[] values = {0, 63, Edges.NONE, 62, 1, Edges.NONE};
    for (int value : values) {
      AlertIndex x = Made.withTest(5, 0, 63, false);
      x.set(5, value);
      edges.due("satisfies(0) with " + value, value != Edges.NONE, x.satisfies(0));
      edges.due("set(5, 9) after " + value, value, x.set(5, 9));
    }
  }

  private void valueBefore() {
    edges.sentence("Promise 7", "Returns the value before.");
    AlertIndex x = new AlertIndex();
    int[] values = {0, 63, 63, Edges.NONE, Edges.NONE, 5, 0};
    int before = Edges.NONE;
    for (int value : values) {
      edges.due("set(3, " + value + ")", before, x.set(3, value));
      before = value;
    }
  }

  private void setNoName() {
    edges.sentence("Promise 7", "Throws IndexOutOfBoundsException if there is no such name");
    int[] none = {-1, 6, 7, Edges.MAX, Edges.MIN};
    int[] values = {0, 63, Edges.NONE};
    for (int name : none) {
      for (int value : values) {
        String call = "set(" + name + ", " + value + ")";
        edges.refused(Edges.NO_INDEX, call, Made::busy, x -> x.set(name, value));
        edges.refused(Edges.NO_INDEX, call, AlertIndex::new, x -> x.set(name, value));
      }
    }
  }

  private void setNoValue() {
    edges.sentence("Promise 7", "Throws IllegalArgumentException if value is out of range");
    int[] none = {-2, 64, 65, Edges.MAX, Edges.MIN};
    for (int value : none) {
      for (int name = 0; name <= 5; name++) {
        int of = name;
        String call = "set(" + name + ", " + value + ")";
        edges.refused(Edges.NO_ARGUMENT, call, Made::busy, x -> x.set(of, value));
      }
    }
  }

  private void comesAsADocument() {
    edges.sentence("Promise 8", "The draft comes as a document;");
    AlertIndex x = Made.withTest(0, 3, 3, false);
    x.setQuiet(0, 2);
    edges.due("come() without values", 0, x.come());
    x.set(0, 3);
    edges.due("come() with the value", 1, x.come());
    edges.due("alerts(0)", 1, x.alerts(0));
    edges.due("come() again", 0, x.come());
    edges.due("batch(0)", 1, x.batch(0));
    edges.due("minute()", 0, x.minute());
  }

  private void keepsItsValues() {
    edges.sentence("Promise 8", "it keeps its values for the next one.");
    AlertIndex x = new AlertIndex();
    for (int name = 0; name <= 5; name++) {
      x.set(name, name * 12);
    }
    x.come();
    x.come();
    for (int name = 0; name <= 5; name++) {
      edges.due("set(" + name + ", NONE)", name * 12, x.set(name, Edges.NONE));
    }
    x.come();
    edges.due("set(0, 1) after NONE came", Edges.NONE, x.set(0, 1));
  }

  private void alertsAsASet() {
    edges.sentence("Promise 8", "Returns the questions that raise alerts, as a set: the bit q for");
    AlertIndex x = twentyByValue();
    for (int q = 0; q < 20; q++) {
      x.set(0, q);
      edges.due("come() for the question " + q, 1 << q, x.come());
    }
    x.set(0, 20);
    edges.due("come() for no question", 0, x.come());
    AlertIndex all = twentyAlwaysTrue();
    edges.due("come() for all", ALL, all.come());
    all.setQuiet(0, 1);
    all.setQuiet(19, 1);
    edges.due("come() for all again", ALL, all.come());
    edges.due("come() without the quiet ones", ALL - 1 - (1 << 19), all.come());
    all.drop(7);
    edges.due("come() without the dropped one", ALL - 1 - (1 << 19) - (1 << 7), all.come());
  }

  private static AlertIndex twentyByValue() {
    AlertIndex made = new AlertIndex();
    for (int q = 0; q < 20; q++) {
      made.question();
      made.product(q);
      made.test(q, 0, q, q, false);
    }
    return made;
  }

  private static AlertIndex twentyAlwaysTrue() {
    AlertIndex made = new AlertIndex();
    for (int q = 0; q < 20; q++) {
      made.question();
      made.product(q);
    }
    return made;
  }

  private void minutesPass() {
    edges.sentence("Promise 9", "Lets minutes pass.");
    AlertIndex x = Made.alwaysTrue(10);
    x.come();
    int minute = 0;
    int[] passed = {1, 3, 5, 1, 1000, 999};
    for (int minutes : passed) {
      x.advance(minutes);
      minute += minutes;
      edges.due("minute()", minute, x.minute());
      edges.due("isQuiet(0) at " + minute, minute < 10, x.isQuiet(0));
    }
    edges.due("set(0, 1): the draft is as before", Edges.NONE, x.set(0, 1));
  }

  private void minutesTaken() {
    edges.sentence("Promise 9", "minutes: 1 to 1000");
    int[] taken = {1, 2, 999, 1000};
    for (int minutes : taken) {
      AlertIndex x = new AlertIndex();
      edges.due("advance(" + minutes + ")", 0, x.advance(minutes));
      edges.due("minute()", minutes, x.minute());
    }
  }

  private void alertsAreCounted() {
    edges.sentence("Promise 9", "Returns how many alerts are raised.");
    AlertIndex x = twentyAlwaysTrue();
    for (int q = 0; q < 20; q++) {
      x.setQuiet(q, q);
    }
    edges.due("advance(1) before any document", 0, x.advance(1));
    x.come();
    x.come();
    x.drop(19);
    edges.due("advance(9), to the ends of 1 to 9", 9, x.advance(9));
    edges.due("advance(1), to the end of 10", 1, x.advance(1));
    edges.due("advance(1000), to the ends of 11 to 18", 8, x.advance(1000));
    edges.due("advance(1000) without batches", 0, x.advance(1000));
    for (int q = 0; q < 19; q++) {
      edges.due("alerts(" + q + ")", 2, x.alerts(q));
    }
  }

  private void batchesAreNotDocuments() {
    edges.sentence("Promise 9", "Returns how many alerts are raised.");
    AlertIndex x = twentyAlwaysTrue();
    for (int q = 0; q < 20; q++) {
      x.setQuiet(q, 5);
    }
    for (int i = 0; i < 4; i++) {
      x.come();
    }
    edges.due("advance(5), once for each batch of 3", 20, x.advance(5));
  }

  private void minutesRefused() {
    edges.sentence("Promise 9", "Throws IllegalArgumentException if minutes is out of range");
    int[] none = {0, -1, 1001, 1002, -1000, Edges.MAX, Edges.MIN};
    for (int minutes : none) {
      String call = "advance(" + minutes + ")";
      edges.refused(Edges.NO_ARGUMENT, call, Made::busy, x -> x.advance(minutes));
      edges.refused(Edges.NO_ARGUMENT, call, AlertIndex::new, x -> x.advance(minutes));
    }
  }

  /** These objects are used for more than 512 calls: with fewer none gets beyond 512000. */
  private void aboveTheLastMinute() {
    edges.sentence("Promise 9", "if the minute would be above 1000000");
    AlertIndex x = nearTheLastMinute();
    edges.due("advance(1000), to 1000000", 0, x.advance(1000));
    edges.due("minute(), the last one", 1000000, x.minute());
    edges.refused(Edges.NO_STATE, "advance(1) at 1000000", DocumentsEdges::atTheLastMinute,
        made -> made.advance(1));
    edges.refused(Edges.NO_STATE, "advance(1000) at 999001", DocumentsEdges::oneMinuteTooLate,
        made -> made.advance(1000));
    edges.refused(Edges.NO_ARGUMENT, "advance(1001) at 1000000", DocumentsEdges::atTheLastMinute,
        made -> made.advance(1001));
    edges.refused(Edges.NO_ARGUMENT, "advance(0) at 1000000", DocumentsEdges::atTheLastMinute,
        made -> made.advance(0));
  }

  /** The minute is 999000, and no alert has been raised yet. */
  private static AlertIndex nearTheLastMinute() {
    AlertIndex made = Made.alwaysTrue(1000);
    for (int i = 0; i < 999; i++) {
      made.advance(1000);
    }
    return made;
  }

  private static AlertIndex oneMinuteTooLate() {
    AlertIndex made = nearTheLastMinute();
    made.come();
    made.come();
    made.advance(1);
    return made;
  }

  private static AlertIndex atTheLastMinute() {
    AlertIndex made = nearTheLastMinute();
    made.advance(1000);
    made.come();
    made.come();
    return made;
  }
}
