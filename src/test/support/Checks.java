import java.util.NoSuchElementException;

/** What the tests share: checks that are counted, what was kept as a text, and small mills. */
abstract class Checks {
  static final int MIN = Integer.MIN_VALUE;
  static final int MAX = Integer.MAX_VALUE;

  static final Class<?> BOUNDS = IndexOutOfBoundsException.class;
  static final Class<?> ARGUMENT = IllegalArgumentException.class;
  static final Class<?> STATE = IllegalStateException.class;
  static final Class<?> UNSUPPORTED = UnsupportedOperationException.class;
  static final Class<?> NO_ELEMENT = NoSuchElementException.class;
  static final Class<?> ARITHMETIC = ArithmeticException.class;

  /* Numbers that are no part of a time, no number of 'r' and 't', and the pairs that are no time. */
  static final int[] NO_SMALL_NUMBERS = {0, 10, -1, 11, MIN, MAX};
  static final int[][] NO_TIMES = {
    {-1, 0}, {0, -1}, {10, 0}, {0, 10}, {-1, 10}, {MIN, 9}, {9, MIN}, {MAX, 9}, {9, MAX}, {-1, 19}
  };

  private static int wrong = 0;
  private static int checks = 0;

  interface Call {
    Object answer();
  }

  static void eq(String what, Object got, Object due) {
    checks++;
    if (!due.equals(got)) {
      wrong++;
      System.out.println(what + ": answered " + got + ", due is " + due);
    }
  }

  /* Just the class that is due counts, not one below it: the machine's own are below. */
  static void fails(String what, Class<?> due, Call call) {
    eq(what, outcome(call), due);
  }

  /** What a call answers, or the class of what it throws. */
  static Object outcome(Call call) {
    try {
      return call.answer();
    } catch (RuntimeException e) {
      return e.getClass();
    }
  }

  static void end(String good) {
    System.out.println(wrong == 0 ? good + ": " + checks + " checks" : wrong + " checks are wrong");
    System.exit(wrong == 0 ? 0 : 1);
  }

  /** The rows of a view at the time 9, 9: key, value and weight of each. */
  static String last(DifferenceMill m, int view) {
    return kept(m, m.rows(view, 9, 9), false);
  }

  static String at(DifferenceMill m, int view, int a, int b) {
    return kept(m, m.rows(view, a, b), false);
  }

  static String diffs(DifferenceMill m, int view) {
    return kept(m, m.differences(view), true);
  }

  static String kept(DifferenceMill m, int count, boolean times) {
    StringBuilder text = new StringBuilder();
    for (int i = 0; i < count; i++) {
      text.append(i == 0 ? "" : " ").append(m.keyAt(i)).append(',').append(m.valueAt(i));
      text.append(':').append(m.weightAt(i));
      text.append(times ? "@" + m.timeAt(i) : "");
    }
    return text.toString();
  }

  /** The numbers of the changes that explain a row, or the class of what is thrown. */
  static String why(DifferenceMill m, int view, int key, int value, int a, int b) {
    Object count = outcome(() -> m.explain(view, key, value, a, b));
    if (!(count instanceof Integer)) {
      return count.toString();
    }
    StringBuilder text = new StringBuilder();
    for (int i = 0; i < (Integer) count; i++) {
      text.append(i == 0 ? "" : " ").append(m.explained(i));
    }
    return text.toString();
  }

  /** A mill with one input and changes key, value, weight, a, b. */
  static DifferenceMill mill(int... changes) {
    DifferenceMill m = new DifferenceMill();
    m.input();
    tell(m, 0, changes);
    return m;
  }

  static void tell(DifferenceMill m, int input, int... changes) {
    for (int i = 0; i + 4 < changes.length; i += 5) {
      m.change(input, changes[i], changes[i + 1], changes[i + 2], changes[i + 3], changes[i + 4]);
    }
  }
}
