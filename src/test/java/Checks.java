import java.util.List;

/** Counts what a test program checked, and ends it with 1 if something was wrong. */
final class Checks {
  interface Call {
    void run();
  }

  private int right = 0;
  private int wrong = 0;

  void eq(String what, long got, long want) {
    note(got == want, what + " answered " + got + ", due is " + want);
  }

  void eqDouble(String what, double got, double want) {
    note(got == want, what + " answered " + got + ", due is " + want);
  }

  void eqText(String what, String got, String want) {
    note(got.equals(want), what + " answered\n  " + got + "\n, due is\n  " + want);
  }

  void eqLines(String what, List<String> got, List<String> want) {
    int line = 0;
    while (line < got.size() && line < want.size() && got.get(line).equals(want.get(line))) {
      line++;
    }
    note(line == got.size() && line == want.size(), what + ": line " + line + " is "
        + lineOf(got, line) + ", due is " + lineOf(want, line));
  }

  private static String lineOf(List<String> lines, int line) {
    return line < lines.size() ? lines.get(line) : "the end";
  }

  void index(String what, Call call) {
    fails(what, IndexOutOfBoundsException.class, call);
  }

  void argument(String what, Call call) {
    fails(what, IllegalArgumentException.class, call);
  }

  void state(String what, Call call) {
    fails(what, IllegalStateException.class, call);
  }

  void note(boolean fine, String fault) {
    if (fine) {
      right++;
    } else {
      wrong++;
      System.out.println(fault);
    }
  }

  void end(String name) {
    System.out.println(name + ": " + right + " answers right, " + wrong + " wrong");
    if (wrong != 0 || right == 0) {
      System.exit(1);
    }
  }

  // The exact class: a subclass is what the machine itself throws.
  private void fails(String what, Class<?> due, Call call) {
    Class<?> got = null;
    try {
      call.run();
    } catch (RuntimeException e) {
      got = e.getClass();
    }
    note(got == due, what + " threw " + got + ", due is " + due);
  }
}
