/** Many runs of calls on an object and on the model, which are to answer alike in every call. */
public final class ModelTest {
  private static final int RUNS = 4000;
  private static final int CALLS = 260;
  private static final int[] ODD = {
    -1, -2, 6, 20, 64, 1001, 21, 65, 1000, Integer.MAX_VALUE, Integer.MIN_VALUE
  };

  private static final Check check = new Check();

  private final AlertIndex object = new AlertIndex();
  private final Model model = new Model();
  private long seed;
  private int questions = 0;

  private ModelTest(long seed) {
    this.seed = seed;
  }

  public static void main(String[] args) {
    check.promise("as the model");
    for (int run = 0; run < RUNS; run++) {
      new ModelTest(run).calls(run);
    }
    check.end();
  }

  /** A look at the whole state is up to 120 calls, and an object has 512: so there are two. */
  private void calls(int run) {
    for (int call = 0; call < CALLS; call++) {
      twice(run + "." + call);
      if (call == CALLS / 2) {
        state(run + "." + call);
      }
    }
    state(run + ".end");
  }

  private void twice(String where) {
    int kind = upTo(24);
    int a = arg(questions);
    int b = kind == 2 || kind == 3 || kind == 4 || kind == 5 ? arg(5) : quiet();
    int c = arg(63);
    int d = c >= 0 && c < 64 && upTo(8) > 0 ? c + upTo(63 - c) : arg(63);
    boolean e = upTo(3) == 0;
    int v = upTo(6) == 0 ? -1 : arg(63);
    int minutes = upTo(3) == 0 ? arg(1000) : arg(6);
    String got = told(() -> onObject(kind, a, b, c, d, e, v, minutes));
    String want = told(() -> onModel(kind, a, b, c, d, e, v, minutes));
    String call = where + " kind " + kind + " of " + a + " " + b + " " + c + " " + d + " " + e
        + " " + v + " " + minutes;
    check.due(call, want, got);
  }

  private long onObject(int kind, int a, int b, int c, int d, boolean e, int v, int minutes) {
    switch (kind) {
      case 0: return asked(object.question());
      case 1: case 21: return object.product(a);
      case 2: case 3: case 4: case 5: return object.test(a, b, c, d, e);
      case 6: return upToDrop(a) ? object.drop(a) : 0;
      case 7: return object.setQuiet(a, b);
      case 8: case 9: case 10: case 22: return object.set(b % 6, v);
      case 11: case 12: case 13: return object.come();
      case 14: case 15: return object.advance(minutes);
      case 16: return object.satisfies(a) ? 1 : 0;
      case 17: return object.matching();
      case 18: case 23: case 24: return object.matchingByIndex();
      case 19: return object.pieceAt(c, d, a);
      default: return object.set(a, v);
    }
  }

  private long onModel(int kind, int a, int b, int c, int d, boolean e, int v, int minutes) {
    switch (kind) {
      case 0: return model.question();
      case 1: case 21: return model.product(a);
      case 2: case 3: case 4: case 5: return model.test(a, b, c, d, e);
      case 6: return upToDrop(a) ? model.drop(a) : 0;
      case 7: return model.setQuiet(a, b);
      case 8: case 9: case 10: case 22: return model.set(b % 6, v);
      case 11: case 12: case 13: return model.come();
      case 14: case 15: return model.advance(minutes);
      case 16: return model.satisfies(a) ? 1 : 0;
      case 17: return model.matching();
      case 18: case 23: case 24: return model.matching();
      case 19: return model.pieceAt(c, d, a);
      default: return model.set(a, v);
    }
  }

  private void state(String where) {
    for (int q = -1; q <= questions; q++) {
      int asked = q;
      String of = where + " question " + q + " ";
      check.due(of + "satisfies", told(() -> model.satisfies(asked) ? 1 : 0),
          told(() -> object.satisfies(asked) ? 1 : 0));
      check.due(of + "sizeOf", told(() -> model.sizeOf(asked)), told(() -> object.sizeOf(asked)));
      check.due(of + "isQuiet", told(() -> model.isQuiet(asked) ? 1 : 0),
          told(() -> object.isQuiet(asked) ? 1 : 0));
      check.due(of + "alerts", told(() -> model.alerts(asked)), told(() -> object.alerts(asked)));
      check.due(of + "batch", told(() -> model.batch(asked)), told(() -> object.batch(asked)));
    }
    for (int size = -1; size <= 5; size++) {
      check.due(where + " withSize", model.withSize(size), object.withSize(size));
    }
    check.due(where + " minute", model.minute(), object.minute());
    check.due(where + " matching", model.matching(), object.matching());
    check.due(where + " matchingByIndex", model.matching(), object.matchingByIndex());
  }

  /** Most drops are left out, or few questions would live long. */
  private boolean upToDrop(int question) {
    return (question + seed) % 5 == 0;
  }

  private long asked(int question) {
    questions = question + 1;
    return question;
  }

  /** A name in one call, minutes in another: small ones mostly, so that quiets end often. */
  private int quiet() {
    return upTo(4) == 0 ? arg(1000) : upTo(8);
  }

  private int arg(int most) {
    return upTo(40) == 0 ? ODD[upTo(ODD.length - 1)] : upTo(most);
  }

  private int upTo(int most) {
    seed = seed * 6364136223846793005L + 1442695040888963407L;
    return (int) Long.remainderUnsigned(seed >>> 33, most + 1L);
  }

  private interface Answer {
    long give();
  }

  private static String told(Answer answer) {
    try {
      return String.valueOf(answer.give());
    } catch (RuntimeException e) {
      return "throws." + Check.nameOf(e);
    }
  }
}
