import java.util.ArrayList;
import java.util.List;

/** A Check for tests that hold to a sentence of the document, and for calls that are refused. */
final class Edges {
  static final int MAX = Integer.MAX_VALUE;
  static final int MIN = Integer.MIN_VALUE;
  static final int NONE = AlertIndex.NONE;
  static final String NO_INDEX = "IndexOutOfBoundsException";
  static final String NO_ARGUMENT = "IllegalArgumentException";
  static final String NO_STATE = "IllegalStateException";

  /** How an object is made that is in a state of some interest. */
  interface Start {
    AlertIndex make();
  }

  interface Act {
    void on(AlertIndex x);
  }

  final Check check = new Check();
  private final List<String[]> quotes = new ArrayList<>();

  /** What follows, up to the next sentence, would fail if these words didn't hold. */
  void sentence(String section, String words) {
    quotes.add(new String[] {section, words});
    check.promise(section + " '" + words + "'");
  }

  List<String[]> quotes() {
    return quotes;
  }

  void due(String call, long want, long got) {
    check.due(call, want, got);
  }

  void due(String call, boolean want, boolean got) {
    check.due(call, want, got);
  }

  /** The call throws, also a second time, and all that can be seen is as without it. */
  void refused(String due, String call, Start start, Act act) {
    AlertIndex x = start.make();
    check.due(call, due, Check.thrownBy(() -> act.on(x)));
    check.due(call + " again", due, Check.thrownBy(() -> act.on(x)));
    same("after the refused " + call, Seen.of(start.make()), Seen.of(x));
  }

  /** The call is taken, whatever it answers. */
  void taken(String call, Start start, Act act) {
    AlertIndex x = start.make();
    check.due(call, "nothing", Check.thrownBy(() -> act.on(x)));
  }

  /** The call answers, and all that can be seen is as without it. */
  void changesNothing(String call, Start start, Act act) {
    AlertIndex x = start.make();
    act.on(x);
    same("after " + call, Seen.of(start.make()), Seen.of(x));
  }

  private void same(String when, List<String> want, List<String> got) {
    int at = 0;
    while (at < want.size() - 1 && want.get(at).equals(got.get(at))) {
      at++;
    }
    check.due(when, want.get(at), got.get(at));
  }
}
