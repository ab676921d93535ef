import java.util.ArrayList;
import java.util.List;

/**
 * The document's words once more, in their slowest form: time passes minute by minute, and the
 * state is held otherwise than in AlertIndex, so that one mistake is not made in both.
 */
final class Model {
  private static final class Asked {
    final List<List<int[]>> products = new ArrayList<>();
    boolean dropped = false;
    int quietTime = 0;
    int quietMinutesLeft = 0;
    int alerts = 0;
    int batch = 0;
  }

  private final List<Asked> all = new ArrayList<>();
  private final Integer[] draft = new Integer[6];
  private int minute = 0;

  int question() {
    if (all.size() == 20) {
      throw new IllegalStateException();
    }
    all.add(new Asked());
    return all.size() - 1;
  }

  int product(int question) {
    Asked asked = asked(question);
    if (asked.products.size() == 3) {
      throw new IllegalStateException();
    }
    asked.products.add(new ArrayList<>());
    return asked.products.size();
  }

  int test(int question, int name, int low, int high, boolean isBarred) {
    Asked asked = asked(question);
    name(name);
    range(low, high);
    int count = asked.products.size();
    if (count == 0 || asked.products.get(count - 1).size() == 4) {
      throw new IllegalStateException();
    }
    List<int[]> tests = asked.products.get(count - 1);
    tests.add(new int[] {name, low, high, isBarred ? 1 : 0});
    return tests.size();
  }

  int drop(int question) {
    Asked asked = asked(question);
    asked.dropped = true;
    return asked.batch;
  }

  int setQuiet(int question, int minutes) {
    Asked asked = asked(question);
    between(minutes, 0, 1000);
    int before = asked.quietTime;
    asked.quietTime = minutes;
    return before;
  }

  int set(int name, int value) {
    name(name);
    between(value, -1, 63);
    Integer before = draft[name];
    draft[name] = value == -1 ? null : Integer.valueOf(value);
    return before == null ? -1 : before;
  }

  int come() {
    int raised = 0;
    for (int q = 0; q < all.size(); q++) {
      Asked asked = all.get(q);
      if (asked.dropped || !isTrue(asked)) {
        continue;
      }
      if (asked.quietMinutesLeft > 0) {
        asked.batch++;
      } else {
        raise(asked);
        raised += 1 << q;
      }
    }
    return raised;
  }

  int advance(int minutes) {
    between(minutes, 1, 1000);
    if (minute + minutes > 1000000) {
      throw new IllegalStateException();
    }
    int raised = 0;
    for (int i = 0; i < minutes; i++) {
      minute++;
      for (Asked asked : all) {
        raised += passMinute(asked);
      }
    }
    return raised;
  }

  private static int passMinute(Asked asked) {
    if (asked.dropped || asked.quietMinutesLeft == 0) {
      return 0;
    }
    asked.quietMinutesLeft--;
    if (asked.quietMinutesLeft > 0 || asked.batch == 0) {
      return 0;
    }
    asked.batch = 0;
    raise(asked);
    return 1;
  }

  private static void raise(Asked asked) {
    asked.alerts++;
    asked.quietMinutesLeft = asked.quietTime;
  }

  boolean satisfies(int question) {
    return isTrue(asked(question));
  }

  int matching() {
    int found = 0;
    for (int q = 0; q < all.size(); q++) {
      if (!all.get(q).dropped && isTrue(all.get(q))) {
        found += 1 << q;
      }
    }
    return found;
  }

  int sizeOf(int question) {
    return size(asked(question));
  }

  int withSize(int size) {
    int count = 0;
    for (Asked asked : all) {
      count += !asked.dropped && size(asked) == size ? 1 : 0;
    }
    return count;
  }

  int pieces(int low, int high) {
    range(low, high);
    return cut(low, high).size();
  }

  int pieceAt(int low, int high, int k) {
    if (k < 0) {
      throw new IndexOutOfBoundsException();
    }
    range(low, high);
    List<Integer> pieces = cut(low, high);
    return k < pieces.size() ? pieces.get(k) : -1;
  }

  int minute() {
    return minute;
  }

  boolean isQuiet(int question) {
    return asked(question).quietMinutesLeft > 0;
  }

  int alerts(int question) {
    return asked(question).alerts;
  }

  int batch(int question) {
    return asked(question).batch;
  }

  private static List<Integer> cut(int low, int high) {
    List<Integer> found = new ArrayList<>();
    int begin = low;
    while (begin <= high) {
      int length = 64;
      while (begin % length != 0 || begin + length - 1 > high) {
        length /= 2;
      }
      found.add(100 * begin + length);
      begin += length;
    }
    return found;
  }

  private boolean isTrue(Asked asked) {
    return asked.products.stream().anyMatch(tests -> tests.stream().allMatch(this::isTrue));
  }

  private boolean isTrue(int[] test) {
    Integer value = draft[test[0]];
    boolean lies = value != null && value >= test[1] && value <= test[2];
    return test[3] == 1 ? !lies : lies;
  }

  private static int size(Asked asked) {
    int least = asked.products.isEmpty() ? 0 : 4;
    for (List<int[]> tests : asked.products) {
      least = Math.min(least, (int) tests.stream().filter(test -> test[3] == 0).count());
    }
    return least;
  }

  private Asked asked(int question) {
    if (question < 0 || question >= all.size() || all.get(question).dropped) {
      throw new IndexOutOfBoundsException();
    }
    return all.get(question);
  }

  private static void name(int name) {
    if (name < 0 || name > 5) {
      throw new IndexOutOfBoundsException();
    }
  }

  private static void range(int low, int high) {
    between(low, 0, 63);
    between(high, low, 63);
  }

  private static void between(int number, int least, int most) {
    if (number < least || number > most) {
      throw new IllegalArgumentException();
    }
  }
}
