import java.util.ArrayList;
import java.util.List;

/**
 * All that can be seen of an object, as answers of one series of calls: what is asked changes the
 * object, or the draft, the quiet times, the ends of the quiets and the counts would stay unseen.
 */
final class Seen {
  private interface Answer {
    long give();
  }

  private final AlertIndex x;
  private final List<String> answers = new ArrayList<>();

  private Seen(AlertIndex x) {
    this.x = x;
  }

  static List<String> of(AlertIndex x) {
    Seen seen = new Seen(x);
    seen.questions();
    seen.matching();
    seen.quiets();
    seen.draft();
    seen.changes();
    return seen.answers;
  }

  private void questions() {
    ask("minute()", () -> x.minute());
    for (int q = 0; q < 20; q++) {
      int asked = q;
      ask("satisfies(" + q + ")", () -> x.satisfies(asked) ? 1 : 0);
      ask("sizeOf(" + q + ")", () -> x.sizeOf(asked));
      ask("isQuiet(" + q + ")", () -> x.isQuiet(asked) ? 1 : 0);
      ask("alerts(" + q + ")", () -> x.alerts(asked));
      ask("batch(" + q + ")", () -> x.batch(asked));
    }
  }

  private void matching() {
    ask("matching()", () -> x.matching());
    ask("matchingByIndex()", () -> x.matchingByIndex());
    for (int size = 0; size <= 4; size++) {
      int asked = size;
      ask("withSize(" + size + ")", () -> x.withSize(asked));
    }
  }

  private void quiets() {
    for (int passed = 1; passed <= 3; passed++) {
      ask("advance(1)", () -> x.advance(1));
      for (int q = 0; q < 20; q++) {
        int asked = q;
        ask("isQuiet(" + q + ")", () -> x.isQuiet(asked) ? 1 : 0);
      }
    }
    for (int passed = 4; passed <= 12; passed++) {
      ask("advance(1)", () -> x.advance(1));
    }
  }

  private void draft() {
    int[] values = {0, 17};
    for (int value : values) {
      for (int name = 0; name < 6; name++) {
        int asked = name;
        ask("set(" + name + ", " + value + ")", () -> x.set(asked, value));
        ask("matching()", () -> x.matching());
        ask("matchingByIndex()", () -> x.matchingByIndex());
      }
    }
    ask("come()", () -> x.come());
    ask("come()", () -> x.come());
  }

  private void changes() {
    ask("question()", () -> x.question());
    for (int q = 0; q < 20; q++) {
      int asked = q;
      ask("setQuiet(" + q + ", 1)", () -> x.setQuiet(asked, 1));
      ask("test(" + q + ", 0, 0, 0, false)", () -> x.test(asked, 0, 0, 0, false));
      ask("product(" + q + ")", () -> x.product(asked));
      ask("drop(" + q + ")", () -> x.drop(asked));
    }
  }

  private void ask(String call, Answer answer) {
    answers.add(answers.size() + " " + call + " = " + told(answer));
  }

  private static String told(Answer answer) {
    try {
      return String.valueOf(answer.give());
    } catch (RuntimeException e) {
      return "throws." + Check.nameOf(e);
    }
  }
}
