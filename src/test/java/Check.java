/** Compares answers with those that are due, tells the wrong ones, and ends the program by them. */
final class Check {
  /** A call of which the exception is asked for. */
  interface Call {
    void make();
  }

  private int right = 0;
  private int wrong = 0;
  private String promise = "";

  void promise(String name) {
    promise = name;
  }

  void due(String call, long want, long got) {
    count(want == got, call, String.valueOf(want), String.valueOf(got));
  }

  void due(String call, boolean want, boolean got) {
    count(want == got, call, String.valueOf(want), String.valueOf(got));
  }

  void due(String call, String want, String got) {
    count(want.equals(got), call, want, got);
  }

  void noIndex(String call, Call made) {
    due(call, "IndexOutOfBoundsException", thrownBy(made));
  }

  void noArgument(String call, Call made) {
    due(call, "IllegalArgumentException", thrownBy(made));
  }

  void noState(String call, Call made) {
    due(call, "IllegalStateException", thrownBy(made));
  }

  static String thrownBy(Call made) {
    try {
      made.make();
    } catch (RuntimeException e) {
      return nameOf(e);
    }
    return "nothing";
  }

  /** A list's own exception bears the name of a due one, so where it was thrown is looked at. */
  static String nameOf(RuntimeException e) {
    StackTraceElement[] stack = e.getStackTrace();
    String thrower = stack.length > 0 ? stack[0].getClassName() : "the machine";
    boolean isWritten = thrower.startsWith("AlertIndex") || thrower.startsWith("Model");
    String name = e.getClass().getSimpleName();
    return isWritten ? name : name + " of " + thrower;
  }

  void end() {
    System.out.println(right + " answers as due, " + wrong + " not");
    if (wrong != 0) {
      System.exit(1);
    }
  }

  private void count(boolean isRight, String call, String want, String got) {
    if (isRight) {
      right++;
      return;
    }
    wrong++;
    System.out.println(promise + ": " + call + " answered " + got + ", due is " + want);
  }
}
