/**
 * The edges that the document names: too small and too large, empty, full (but for the 300
 * differences, see LimitTest), and the first and last of what is in order.
 */
public final class EdgeTest extends Checks {
  private static final String MAPS = "s+rzd";
  private static final String FILTERS = "<=ko";
  private static final String JOINS = "lpe";
  private static final String GROUPS = "cslgmt";

  public static void main(String[] args) {
    timesThatAre();
    numbersOfMaps();
    numbersOfGroups();
    kindsThatAre();
    numbersWithoutMeaning();
    indices();
    weightsThatAre();
    newObject();
    viewsWithoutRows();
    variablesOutside();
    emptyKept();
    emptySetExplainsNothing();
    twentyViews();
    sixteenChanges();
    hundredTimes();
    filterEdges();
    groupEdges();
    medianEdges();
    gridEdges();
    joinEdges();
    distinctEdges();
    recursionEdges();
    variableEdges();
    explainEdges();
    explainTimes();
    errorEdges();
    arrangementEdges();
    finalEdges();
    keptOrder();
    end("the edges are as said");
  }

  /** Each of the 100 times is one, for each call that takes a time. */
  private static void timesThatAre() {
    for (int time = 0; time < 100; time++) {
      int a = time / 10;
      int b = time % 10;
      DifferenceMill m = mill(3, 4, 5, a, b);
      String what = " at " + a + ", " + b;
      eq("14" + what, diffs(m, 0), "3,4:5@" + time);
      eq("19" + what, at(m, 0, a, b), "3,4:5");
      eq("23" + what, m.timeAt(0), time);
      eq("25" + what, m.weight(0, 3, 4, a, b), 5);
      eq("25 before it" + what, a == 0 ? 0 : m.weight(0, 3, 4, a - 1, 9), 0);
      eq("25 beside it" + what, b == 0 ? 0 : m.weight(0, 3, 4, 9, b - 1), 0);
      eq("26" + what, m.errors(0, a, b), 0);
      eq("27" + what, why(m, 0, 3, 4, a, b), "0");
      eq("29" + what, m.isFinal(0, a, b), false);
      eq("16 open" + what, m.isClosed(a, b), false);
      eq("15" + what, m.close(a, b), (a + 1) * (b + 1));
      eq("16" + what, m.isClosed(a, b), true);
      eq("16 behind it" + what, m.isClosed(9, 9), time == 99);
      eq("29 closed" + what, m.isFinal(0, a, b), true);
      eq("31" + what, m.closedShare(), (float) ((a + 1) * (b + 1)) / 100f);
      eq("17" + what, m.forget(a, b), 1);
      eq("19 forgotten" + what, m.rows(0, a, b), 1);
      fails("19 before it" + what, time == 0 ? ARGUMENT : STATE,
          () -> a == 0 ? m.rows(0, 9, b - 1) : m.rows(0, a - 1, 9));
    }
  }

  private static void numbersOfMaps() {
    for (int n = 1; n <= 9; n++) {
      DifferenceMill m = mill(7, -1, 1, 0, 0, 7, n, 1, 0, 0, 7, n - 1, 1, 0, 0, 7, MIN, 1, 0, 0);
      int view = m.map(0, 'r', n);
      eq("3 r below 0, " + n, m.weight(view, n - 1, -1, 0, 0), 1);
      eq("3 r itself, " + n, m.weight(view, 0, n, 0, 0), 1);
      eq("3 r one less, " + n, m.weight(view, n - 1, n - 1, 0, 0), 1);
      int least = (int) ((MIN % (long) n + n) % n);
      eq("3 r the least, " + n, m.weight(view, least, MIN, 0, 0), 1);
    }
  }

  private static void numbersOfGroups() {
    DifferenceMill m = new DifferenceMill();
    m.input();
    for (int i = 1; i <= 10; i++) {
      m.change(0, 4, 10 * i, i, 0, 0);
    }
    m.change(0, 5, 3, 2, 0, 0);
    m.change(0, 6, 3, -2, 0, 0);
    for (int n = 1; n <= 9; n++) {
      int view = m.group(0, 't', n);
      eq("8 t " + n, m.rows(view, 9, 9), n + 1);
      eq("8 t least of them, " + n, m.valueAt(0), 10 * (11 - n));
      eq("8 t its weight, " + n, m.weightAt(0), 11 - n);
      eq("8 t greatest of them, " + n, m.valueAt(n - 1), 100);
      eq("8 t fewer than " + n, m.weight(view, 5, 3, 9, 9), 2);
    }
  }

  /** The first 512 signs, and those with the letters' numbers in the low byte. */
  private static void kindsThatAre() {
    for (int block = 0; block < 4; block++) {
      DifferenceMill m = mill();
      int accepted = 0;
      for (int c = 0; c < 128; c++) {
        char kind = (char) (block == 3 ? 65408 + c : 128 * block + c);
        accepted += isTaken(() -> m.map(0, kind, 1), "3", MAPS, kind);
        accepted += isTaken(() -> m.join(0, 0, kind), "7", JOINS, kind);
      }
      DifferenceMill other = mill();
      for (int c = 0; c < 128; c++) {
        char kind = (char) (block == 3 ? 65408 + c : 128 * block + c);
        accepted += isTaken(() -> other.filter(0, kind, 1), "4", FILTERS, kind);
        accepted += isTaken(() -> other.group(0, kind, 1), "8", GROUPS, kind);
      }
      eq("kinds in all", accepted, block == 0 ? 5 + 3 + 4 + 6 : 0);
      eq("views in all", m.views() + other.views(), accepted + 2);
    }
  }

  private static int isTaken(Call call, String promise, String kinds, char kind) {
    boolean due = kinds.indexOf(kind) >= 0;
    Object got = outcome(call);
    eq(promise + " kind " + (int) kind, got instanceof Integer ? "a view" : got,
        due ? "a view" : ARGUMENT);
    return due ? 1 : 0;
  }

  /** A number is of no meaning for s, z and d, for o, and for all groups but t. */
  private static void numbersWithoutMeaning() {
    for (int n : NO_SMALL_NUMBERS) {
      DifferenceMill m = mill(2, 7, 1, 0, 0);
      eq("3 s " + n, last(m, m.map(0, 's', n)), "7,2:1");
      eq("3 z " + n, last(m, m.map(0, 'z', n)), "0,7:1");
      eq("3 d " + n, last(m, m.map(0, 'd', n)), "2,3:1");
      eq("4 o " + n, last(m, m.filter(0, 'o', n)), "2,7:1");
      eq("8 c " + n, last(m, m.group(0, 'c', n)), "2,1:1");
      eq("8 s " + n, last(m, m.group(0, 's', n)), "2,7:1");
      eq("8 l " + n, last(m, m.group(0, 'l', n)), "2,7:1");
      eq("8 g " + n, last(m, m.group(0, 'g', n)), "2,7:1");
      eq("8 m " + n, last(m, m.group(0, 'm', n)), "2,7:1");
      eq("3 + any " + n, last(m, m.map(0, '+', n)), "2," + (7 + n) + ":1");
      eq("4 < any " + n, last(m, m.filter(0, '<', n)), 7 < n ? "2,7:1" : "");
      eq("4 = any " + n, last(m, m.filter(0, '=', n)), "");
      eq("4 k any " + n, last(m, m.filter(0, 'k', n)), "");
    }
  }

  private static void indices() {
    for (int size = 0; size <= 16; size += 4) {
      DifferenceMill m = mill();
      for (int i = 0; i < size; i++) {
        m.change(0, i, 2 * i, 3 + i, 0, 0);
      }
      eq("19 size", m.rows(0, 4, 5), size);
      for (int i = -2; i < size + 2; i++) {
        int at = i;
        boolean there = i >= 0 && i < size;
        eq("20 " + i + " of " + size, outcome(() -> m.keyAt(at)), there ? i : BOUNDS);
        eq("21 " + i + " of " + size, outcome(() -> m.valueAt(at)), there ? 2 * i : BOUNDS);
        eq("22 " + i + " of " + size, outcome(() -> m.weightAt(at)), there ? 3 + i : BOUNDS);
        eq("23 " + i + " of " + size, outcome(() -> m.timeAt(at)), there ? 45 : BOUNDS);
      }
    }
  }

  private static void weightsThatAre() {
    for (int weight : new int[] {1, -1, MIN, MAX, 65536}) {
      DifferenceMill m = mill(MIN, MAX, weight, 9, 9);
      eq("14 weight " + weight, diffs(m, 0), MIN + "," + MAX + ":" + weight + "@99");
      eq("25 weight " + weight, m.weight(0, MIN, MAX, 9, 9), weight);
      eq("32 weight " + weight, m.meanWeight(), (double) weight);
    }
  }

  private static void newObject() {
    DifferenceMill m = new DifferenceMill();
    eq("12 none", m.views(), 0);
    eq("13 none", m.arrangements(), 0);
    eq("18 none", m.changes(), 0);
    eq("30 none", m.found(), 0L);
    eq("31 none", m.closedShare(), 0f);
    eq("33 none", m.isSound(), true);
    eq("16 none", m.isClosed(0, 0), false);
    fails("17 none is closed", UNSUPPORTED, () -> m.forget(0, 0));
    eq("15 without views", m.close(0, 0), 1);
    eq("17 without views", m.forget(0, 0), 0);
    eq("2 first number", m.input(), 0);
    eq("10 second number", m.variable(), 1);
    eq("11 third number", m.recursion(0, 1, 1), 2);
    eq("12 three", m.views(), 3);
  }

  /** A mill with an input 0, a variable 1, and a view of each kind made of the input. */
  private static DifferenceMill allKinds() {
    DifferenceMill m = mill();
    m.variable();
    for (int i = 0; i < MAPS.length(); i++) {
      m.map(0, MAPS.charAt(i), 1);
    }
    for (int i = 0; i < GROUPS.length(); i++) {
      m.group(0, GROUPS.charAt(i), 2);
    }
    m.filter(0, '<', 100);
    m.sum(0, 2);
    m.negative(0);
    m.join(0, 0, 'p');
    m.distinct(0);
    m.recursion(0, 1, 2);
    return m;
  }

  private static void viewsWithoutRows() {
    DifferenceMill never = allKinds();
    DifferenceMill backAgain = allKinds();
    tell(backAgain, 0, 1, 2, 3, 0, 0, 1, 2, -3, 0, 0);
    DifferenceMill later = allKinds();
    tell(later, 0, 1, 2, 3, 5, 5);
    for (int v = 0; v < never.views(); v++) {
      int view = v;
      eq("19 without changes " + v, never.rows(v, 9, 9), 0);
      eq("24 without changes " + v, never.differences(v), 0);
      eq("25 without changes " + v, never.weight(v, 0, 0, 9, 9), 0);
      eq("26 without changes " + v, never.errors(v, 9, 9), 0);
      fails("27 without changes " + v, NO_ELEMENT, () -> never.explain(view, 0, 0, 9, 9));
      eq("24 taken back " + v, backAgain.differences(v), 0);
      eq("19 not yet " + v, later.rows(v, 4, 9) + later.rows(v, 9, 4), 0);
      eq("24 later " + v, later.differences(v) > 0, v != 1);
    }
    eq("30 none", never.found(), 0L);
    eq("33 none", never.isSound() && backAgain.isSound() && later.isSound(), true);
  }

  /** Outside of a recursion a variable is empty, and what is made of it has what the rest gives. */
  private static void variablesOutside() {
    DifferenceMill m = mill(1, 2, 1, 0, 0);
    int v = m.variable();
    int rest = m.sum(v, 0);
    m.join(v, 0, 'l');
    m.join(0, v, 'l');
    m.group(v, 'c', 0);
    m.distinct(v);
    m.map(v, 'z', 0);
    m.negative(v);
    m.recursion(v, v, v);
    m.recursion(v, v, m.map(v, '+', 1));
    int ofBase = m.recursion(0, v, v);
    eq("10 before it is in a recursion", m.rows(v, 9, 9), 0);
    eq("10 rows of the rest", last(m, rest), "1,2:1");
    for (int view = rest + 1; view < ofBase; view++) {
      eq("10 made of it " + view, m.differences(view), 0);
    }
    eq("11 of the base", last(m, ofBase), "1,2:1");
    eq("10 after it was in a recursion", m.rows(v, 9, 9), 0);
    eq("10 the rest still", last(m, rest), "1,2:1");
  }

  private static void emptyKept() {
    DifferenceMill m = mill(1, 2, 3, 0, 0);
    m.input();
    m.rows(0, 0, 0);
    eq("32 one", m.meanWeight(), 3.0);
    m.differences(1);
    fails("32 none of differences", ARITHMETIC, m::meanWeight);
    fails("20 none of differences", BOUNDS, () -> m.keyAt(0));
    m.differences(0);
    eq("32 one of differences", m.meanWeight(), 3.0);
    m.rows(1, 0, 0);
    fails("32 none of rows", ARITHMETIC, m::meanWeight);
    fails("23 none of rows", BOUNDS, () -> m.timeAt(0));
    eq("30 two", m.found(), 2L);
  }

  /** No view has a row of no changes at all, so 0 changes never do. */
  private static void emptySetExplainsNothing() {
    DifferenceMill m = allKinds();
    tell(m, 0, 0, 1, 1, 0, 0);
    for (int v = 0; v < m.views(); v++) {
      m.rows(v, 9, 9);
      boolean there = outcome(() -> m.weightAt(0)) instanceof Integer && m.weightAt(0) > 0;
      if (there) {
        eq("27 one change " + v, why(m, v, m.keyAt(0), m.valueAt(0), 9, 9), "0");
      }
    }
    fails("27 negative, none", NO_ELEMENT, () -> m.explain(15, 0, 1, 9, 9));
  }

  private static void twentyViews() {
    for (int which = 0; which < 10; which++) {
      DifferenceMill m = new DifferenceMill();
      m.input();
      m.variable();
      while (m.views() < 19) {
        eq("12 number", m.views(), m.input());
      }
      eq("the 20th view, call " + which, make(m, which), 19);
      eq("12 20 views", m.views(), 20);
      for (int other = 0; other < 10; other++) {
        int call = other;
        fails("the 21st view, call " + call, STATE, () -> make(m, call));
      }
      eq("12 still 20", m.views(), 20);
      eq("14 the 20th", which == 0 ? m.change(19, 1, 1, 1, 0, 0) : 1, 1);
      eq("24 the 20th", m.differences(19), which == 0 ? 1 : 0);
    }
  }

  private static int make(DifferenceMill m, int which) {
    switch (which) {
      case 0: return m.input();
      case 1: return m.map(18, 'r', 9);
      case 2: return m.filter(18, 'o', 0);
      case 3: return m.sum(18, 0);
      case 4: return m.negative(18);
      case 5: return m.join(0, 18, 'e');
      case 6: return m.group(18, 't', 9);
      case 7: return m.distinct(18);
      case 8: return m.variable();
      default: return m.recursion(0, 1, 18);
    }
  }

  private static void sixteenChanges() {
    DifferenceMill m = mill();
    for (int i = 1; i <= 16; i++) {
      eq("14 change " + i, m.change(0, 1, i, 1, 0, 1), i);
      eq("18 change " + i, m.changes(), i);
    }
    fails("14 the 17th", STATE, () -> m.change(0, 1, 17, 1, 0, 1));
    fails("14 the 17th, of one that is there", STATE, () -> m.change(0, 1, 1, -1, 0, 1));
    eq("19 16 rows", m.rows(0, 9, 9), 16);
    eq("27 the last one", why(m, 0, 1, 16, 9, 9), "15");
    DifferenceMill less = mill();
    for (int i = 0; i < 16; i++) {
      less.change(0, 1, i / 2, 1, 0, i % 2);
    }
    less.close(0, 1);
    eq("17 16 become 8", less.forget(0, 1), 8);
    for (int i = 9; i <= 16; i++) {
      eq("14 again " + i, less.change(0, 2, i, 1, 1, 1), i);
    }
    fails("14 the 17th again", STATE, () -> less.change(0, 2, 3, 1, 1, 1));
  }

  private static void hundredTimes() {
    DifferenceMill m = mill(1, 2, 3, 4, 5);
    int total = 0;
    for (int b = 0; b < 10; b++) {
      total += 10;
      eq("15 line " + b, m.close(9, b), total);
      eq("31 line " + b, m.closedShare(), (float) total / (float) 100);
    }
    eq("15 none more", m.close(0, 0), 100);
    eq("31 all", m.closedShare(), 1f);
    for (int time = 0; time < 100; time++) {
      int a = time / 10;
      int b = time % 10;
      eq("16 " + time, m.isClosed(a, b), true);
      eq("29 " + time, m.isFinal(0, a, b), true);
      fails("14 " + time, UNSUPPORTED, () -> m.change(0, 1, 1, 1, a, b));
    }
    eq("17 all", m.forget(9, 9), 1);
    eq("17 the last time", diffs(m, 0), "1,2:3@99");
    fails("19 but the last time", STATE, () -> m.rows(0, 9, 8));
    DifferenceMill steps = mill();
    eq("15 a line", steps.close(0, 9), 10);
    eq("15 a row across", steps.close(9, 0), 19);
    eq("15 one more", steps.close(1, 1), 20);
    eq("15 all but one line and row", steps.close(8, 8), 83);
    eq("31 float", steps.closedShare(), 83f / 100f);
  }

  private static void filterEdges() {
    DifferenceMill m = mill(MIN, MIN, 1, 0, 0, MAX, MAX, 2, 0, 0, 0, 5, 3, 0, 0, 5, 4, -4, 0, 0);
    eq("4 < least", last(m, m.filter(0, '<', MIN)), "");
    eq("4 < second least", last(m, m.filter(0, '<', MIN + 1)), MIN + "," + MIN + ":1");
    eq("4 < is less", last(m, m.filter(0, '<', 5)), MIN + "," + MIN + ":1 5,4:-4");
    eq("4 < greatest", m.rows(m.filter(0, '<', MAX), 0, 0), 3);
    eq("4 =", last(m, m.filter(0, '=', 5)), "0,5:3");
    eq("4 = greatest", last(m, m.filter(0, '=', MAX)), MAX + "," + MAX + ":2");
    eq("4 k", last(m, m.filter(0, 'k', 5)), "5,4:-4");
    eq("4 k least", last(m, m.filter(0, 'k', MIN)), MIN + "," + MIN + ":1");
    eq("4 o is less", last(m, m.filter(0, 'o', 0)), "0,5:3");
    DifferenceMill far = mill(MIN, MAX, 1, 0, 0, MAX, MIN, 1, 0, 0);
    eq("4 o far apart", last(far, far.filter(0, 'o', 0)), MIN + "," + MAX + ":1");
  }

  /** Only weights greater than 0 are looked at: 0 and less are as no row. */
  private static void groupEdges() {
    DifferenceMill m = mill(1, 5, 1, 0, 0, 1, 9, -1, 0, 0, 1, -9, -1, 0, 0, 2, 1, -1, 0, 0,
        3, 8, 2, 0, 0, 3, 8, -2, 1, 0);
    String[] due = {"1,1:1 3,2:1", "1,5:1 3,16:1", "1,5:1 3,8:1", "1,5:1 3,8:1", "1,5:1 3,8:1",
        "1,5:1 3,8:2"};
    for (int i = 0; i < due.length; i++) {
      int view = m.group(0, GROUPS.charAt(i), 2);
      eq("8 " + GROUPS.charAt(i), at(m, view, 0, 9), due[i]);
      eq("8 later " + GROUPS.charAt(i), at(m, view, 1, 0).indexOf(" "), -1);
    }
    DifferenceMill keys = mill(MIN, MIN, 1, 0, 0, MAX, MIN, 1, 0, 0, MAX, MAX, 1, 0, 0);
    eq("8 l extremes", last(keys, keys.group(0, 'l', 0)), MIN + "," + MIN + ":1 " + MAX + "," + MIN + ":1");
    eq("8 g extremes", last(keys, keys.group(0, 'g', 0)), MIN + "," + MIN + ":1 " + MAX + "," + MAX + ":1");
    eq("8 m extremes", last(keys, keys.group(0, 'm', 0)), MIN + "," + MIN + ":1 " + MAX + "," + MIN + ":1");
    eq("8 t extremes", last(keys, keys.group(0, 't', 1)), MIN + "," + MIN + ":1 " + MAX + "," + MAX + ":1");
    DifferenceMill same = mill(4, 4, 3, 0, 0, 4, 3, 2, 0, 0, 4, 2, 2, 0, 0);
    eq("8 t different values", last(same, same.group(0, 't', 2)), "4,3:2 4,4:3");
  }

  /** As many ahead of it as behind it, or one less, of 1 to 8 values each as often as its weight. */
  private static void medianEdges() {
    int[] due = {1, 1, 2, 2, 3, 3, 4, 4};
    DifferenceMill m = mill();
    int view = m.group(0, 'm', 0);
    for (int i = 0; i < due.length; i++) {
      m.change(0, 0, i + 1, 1, 0, 0);
      eq("8 m of " + (i + 1), last(m, view), "0," + due[i] + ":1");
    }
    DifferenceMill often = mill(0, 1, 2, 0, 0, 0, 2, 1, 1, 0, 0, 3, 1, 2, 0, 0, 4, 3, 3, 0);
    int median = often.group(0, 'm', 0);
    eq("8 m 1 1", at(often, median, 0, 0), "0,1:1");
    eq("8 m 1 1 2", at(often, median, 1, 0), "0,1:1");
    eq("8 m 1 1 2 3", at(often, median, 2, 0), "0,1:1");
    eq("8 m 1 1 2 3 4 4 4", at(often, median, 3, 0), "0,3:1");
  }

  /**
   * Rows at ten times that are all apart, with all numbers of times: each of the 100 times has its
   * own. At a, b these are the values from 9 - b to a, if any.
   */
  private static void gridEdges() {
    for (char kind : GROUPS.toCharArray()) {
      DifferenceMill m = mill();
      int view = m.group(0, kind, 3);
      for (int i = 0; i < 10; i++) {
        m.change(0, 7, i, 1, i, 9 - i);
      }
      for (int time = 0; time < 100; time++) {
        int first = 9 - time % 10;
        int last = time / 10;
        String what = "8 " + kind + " at " + time;
        eq(what, at(m, view, time / 10, time % 10), first > last ? "" : grouped(kind, first, last));
      }
      eq("33 " + kind, m.isSound(), true);
    }
    DifferenceMill m = mill();
    int ones = m.distinct(0);
    for (int i = 0; i < 10; i++) {
      m.change(0, 7, 7, 1, i, 9 - i);
    }
    StringBuilder due = new StringBuilder("7,7:1@9");
    for (int i = 1; i < 10; i++) {
      due.append(" 7,7:1@").append(9 + 9 * i).append(" 7,7:-1@").append(10 + 9 * i);
    }
    eq("9 at ten times", diffs(m, ones), due.toString());
    DifferenceMill many = mill();
    int best = many.group(0, 't', 9);
    for (int i = 0; i < 16; i++) {
      many.change(0, 0, i, 1, i % 10, 9 - i % 10);
    }
    eq("8 t of 16 rows", many.rows(best, 9, 9), 9);
    eq("8 t the least of them", many.valueAt(0), 7);
    eq("8 t beside", at(many, best, 5, 6), "0,3:1 0,4:1 0,5:1 0,13:1 0,14:1 0,15:1");
  }

  private static String grouped(char kind, int first, int last) {
    int count = last - first + 1;
    switch (kind) {
      case 'c': return "7," + count + ":1";
      case 's': return "7," + (first + last) * count / 2 + ":1";
      case 'l': return "7," + first + ":1";
      case 'g': return "7," + last + ":1";
      case 'm': return "7," + (first + last) / 2 + ":1";
      default:
        StringBuilder rows = new StringBuilder();
        for (int i = Math.max(first, last - 2); i <= last; i++) {
          rows.append(rows.length() == 0 ? "" : " ").append("7,").append(i).append(":1");
        }
        return rows.toString();
    }
  }

  private static void joinEdges() {
    DifferenceMill m = mill(1, 10, 2, 0, 0, 1, 20, -3, 0, 0, 2, 30, 1, 0, 0);
    int other = m.input();
    eq("7 with none", last(m, m.join(0, other, 'p')), "");
    m.change(other, 3, 1, 1, 0, 0);
    eq("7 no same key", last(m, m.join(0, other, 'l')), "");
    m.change(other, 1, 7, -5, 0, 0);
    eq("7 less than 0", last(m, m.join(0, other, 'l')), "10,7:-10 20,7:15");
    eq("7 the other way", last(m, m.join(other, 0, 'l')), "7,10:-10 7,20:15");
    eq("7 e the first one's", last(m, m.join(other, 0, 'e')), "1,7:5");
    eq("7 each pair", last(m, m.join(0, 0, 'l')), "10,10:4 10,20:-6 20,10:-6 20,20:9 30,30:1");
    DifferenceMill times = mill(0, 1, 1, 0, 9, 0, 2, 1, 9, 0);
    eq("7 joint times", diffs(times, times.join(0, 0, 'l')), "1,1:1@9 2,2:1@90 1,2:1@99 2,1:1@99");
  }

  private static void distinctEdges() {
    DifferenceMill m = mill(0, 1, 1, 0, 0, 0, 2, 2, 0, 0, 0, 3, -1, 0, 0, 0, 4, 1, 0, 0,
        0, 4, -1, 0, 0, 0, 5, MAX, 0, 0, 0, 6, MIN, 0, 0);
    int ones = m.distinct(0);
    eq("9 greater than 0", last(m, ones), "0,1:1 0,2:1 0,5:1");
    eq("9 of distinct", last(m, m.distinct(ones)), "0,1:1 0,2:1 0,5:1");
    eq("9 of the negative", last(m, m.distinct(m.negative(0))), "0,3:1");
  }

  private static void recursionEdges() {
    DifferenceMill m = mill(0, 0, 1, 0, 0);
    int v = m.variable();
    int up = m.map(v, '+', 1);
    int all = m.recursion(0, v, up);
    eq("11 30 times", m.weight(all, 0, 30, 0, 0), 1);
    eq("11 not 31 times", m.weight(all, 0, 31, 0, 0), 0);
    int doubled = m.sum(v, v);
    eq("11 distinct", last(m, m.recursion(0, v, doubled)), "0,0:1");
    eq("11 base added", last(m, m.recursion(0, v, m.negative(doubled))), "0,0:1");
    DifferenceMill odd = mill(0, 0, 2, 0, 0);
    int w = odd.variable();
    eq("11 base with its weights", last(odd, odd.recursion(0, w, odd.negative(w))), "0,0:1");
    DifferenceMill less = mill(1, 1, -1, 0, 0, 1, 2, 1, 0, 0);
    int x = less.variable();
    eq("11 a base less than 0", last(less, less.recursion(0, x, x)), "1,2:1");
    int twice = less.sum(less.map(x, '+', -1), less.map(x, '+', -1));
    eq("11 made up for", less.weight(less.recursion(0, x, twice), 1, 1, 0, 0), 1);
    DifferenceMill swing = mill(0, 0, 1, 0, 0, 0, 1, -1, 0, 0);
    int y = swing.variable();
    int next = swing.map(y, '+', 1);
    int rec = swing.recursion(0, y, swing.sum(next, swing.filter(next, '=', 1)));
    eq("11 by rounds", swing.rows(rec, 9, 9), 31);
  }

  /** Which variable is which: the first view, one of two, and one that has no part in the base. */
  private static void variableEdges() {
    DifferenceMill first = new DifferenceMill();
    int v = first.variable();
    int in = first.input();
    first.change(in, 0, 5, 1, 0, 0);
    int rec = first.recursion(in, v, first.map(v, '+', 1));
    eq("11 the first view", first.rows(rec, 9, 9), 31);
    eq("10 the first view", first.rows(v, 9, 9), 0);
    DifferenceMill m = mill(0, 0, 1, 0, 0);
    int none = m.input();
    int w = m.variable();
    int x = m.variable();
    int inner = m.recursion(none, x, w);
    int outer = m.recursion(0, w, m.map(inner, '+', 1));
    eq("11 another variable in the body", m.rows(outer, 9, 9), 31);
    eq("11 that is empty outside", m.rows(inner, 9, 9), 0);
    int ofBase = m.recursion(w, x, m.map(x, '+', 40));
    int cut = m.filter(ofBase, '<', 200);
    eq("11 another variable in the base", last(m, m.recursion(0, w, cut)), "0,0:1 0,40:1 0,80:1 0,120:1 "
        + "0,160:1");
    int own = m.recursion(x, x, m.filter(m.map(x, '+', 7), '<', 20));
    eq("11 its own variable in the base", last(m, own), "");
    eq("11 its own variable, as around it", last(m, m.recursion(0, x, own)), "0,0:1 0,7:1 0,14:1");
    eq("11 of the other variable", last(m, m.recursion(0, w, own)), "0,0:1");
  }

  private static void explainEdges() {
    DifferenceMill m = mill(1, 1, -1, 0, 0, 1, 1, 1, 0, 0, 1, 1, 3, 0, 0, 2, 2, 1, 0, 0, 2, 3, 1, 0, 0);
    eq("27 first alone", why(m, 0, 1, 1, 9, 9), "1");
    fails("28 one kept", BOUNDS, () -> m.explained(1));
    int pairs = m.join(0, 0, 'l');
    eq("27 a pair of one", why(m, pairs, 2, 2, 9, 9), "3");
    eq("27 a pair of two", why(m, pairs, 2, 3, 9, 9), "3 4");
    fails("28 two kept", BOUNDS, () -> m.explained(2));
    eq("27 less times less", why(m, pairs, 1, 1, 9, 9), "0");
    int less = m.negative(0);
    eq("27 greater than 0 of all", m.weight(less, 1, 1, 9, 9), -3);
    eq("27 by few alone", why(m, less, 1, 1, 9, 9), "0");
    DifferenceMill three = mill(0, 1, 1, 0, 0, 0, 2, 1, 0, 0, 0, 3, 1, 0, 0);
    int counted = three.group(0, 'c', 0);
    eq("27 c of two", why(three, counted, 0, 2, 9, 9), "0 1");
    eq("27 three are too many", why(three, counted, 0, 3, 9, 9), NO_ELEMENT.toString());
    eq("25 it is there", three.weight(counted, 0, 3, 9, 9), 1);
    DifferenceMill ties = mill(5, 1, 1, 0, 0, 6, 1, 1, 0, 0, 6, 2, 1, 0, 0, 5, 2, 1, 0, 0, 5, 2, 1, 0, 0);
    int both = ties.map(ties.join(0, 0, 'l'), 'z', 0);
    eq("27 first of pairs", why(ties, both, 0, 2, 9, 9), "2");
    int apart = ties.filter(ties.join(0, 0, 'l'), 'o', 0);
    eq("27 by rising numbers", why(ties, apart, 1, 2, 9, 9), "0 3");
    DifferenceMill needs = mill(4, 1, 1, 0, 0, 4, 1, -1, 0, 0, 4, 1, 1, 0, 0);
    eq("27 weight 1", why(needs, 0, 4, 1, 9, 9), "0");
    eq("27 weight 2", why(needs, needs.group(0, 'c', 0), 4, 2, 9, 9), "0 2");
  }

  private static void explainTimes() {
    DifferenceMill m = mill(1, 1, 1, 3, 0, 1, 1, 1, 0, 3, 1, 1, 1, 0, 0);
    int other = m.input();
    tell(m, other, 1, 5, 1, 2, 2);
    eq("27 up to the time", why(m, 0, 1, 1, 9, 9), "0");
    eq("27 not up to it", why(m, 0, 1, 1, 2, 9), "1");
    eq("27 neither", why(m, 0, 1, 1, 2, 2), "2");
    int pairs = m.join(0, other, 'l');
    eq("27 joint time", why(m, pairs, 1, 5, 2, 2), "2 3");
    eq("27 later", why(m, pairs, 1, 5, 3, 2), "0 3");
    eq("27 before the joint time", why(m, pairs, 1, 5, 1, 9), NO_ELEMENT.toString());
    eq("27 one that was taken back", why(mill(2, 2, 1, 0, 0, 2, 2, -1, 0, 0), 0, 2, 2, 0, 0), "0");
  }

  private static void errorEdges() {
    DifferenceMill m = mill(0, 1, 1, 0, 0, 0, 2, 5, 1, 1, 0, 1, -1, 2, 2, 1, 0, 7, 0, 0);
    int d = m.map(0, 'd', 0);
    eq("26 one", m.errors(d, 0, 0), 1);
    eq("26 two", m.errors(d, 1, 1), 6);
    eq("26 taken back", m.errors(d, 2, 2), 5);
    eq("26 beside", m.errors(d, 9, 0), 1);
    eq("3 left out", last(m, d), "1,0:7");
    eq("26 no maps 'd'", m.errors(m.map(0, 'z', 0), 9, 9), 0);
    eq("26 not its own part alone", m.errors(0, 9, 9), 0);
    int zeros = m.map(d, 'z', 0);
    int again = m.map(zeros, 'd', 0);
    eq("26 of both", m.errors(again, 9, 9), 12);
    eq("26 once each", m.errors(m.join(again, m.sum(d, again), 'l'), 9, 9), 12);
    eq("26 two of the same", m.errors(m.sum(d, m.map(0, 'd', 0)), 9, 9), 10);
    int v = m.variable();
    int inBody = m.map(m.map(v, 'z', 0), 'd', 0);
    int rec = m.recursion(0, v, inBody);
    eq("26 with an empty variable", m.errors(rec, 9, 9), 0);
    eq("26 a recursion of a base", m.errors(m.recursion(d, v, v), 9, 9), 5);
    DifferenceMill less = mill(0, 1, -4, 0, 0, 0, 2, 1, 0, 0);
    eq("26 less than 0", less.errors(less.map(0, 'd', 0), 0, 0), -3);
  }

  private static void arrangementEdges() {
    DifferenceMill m = mill();
    m.variable();
    m.distinct(0);
    m.recursion(0, 1, 2);
    m.map(0, 's', 0);
    eq("13 none is looked at", m.arrangements(), 0);
    m.join(0, 0, 'e');
    eq("13 a join of one view", m.arrangements(), 1);
    m.group(1, 'c', 0);
    eq("13 a variable", m.arrangements(), 2);
    m.join(1, 0, 'p');
    eq("13 the same ones", m.arrangements(), 2);
    m.join(4, 5, 'l');
    eq("13 both of a join", m.arrangements(), 4);
    while (m.views() < 20) {
      m.group(m.views() - 1, 't', 1);
    }
    eq("13 groups of groups", m.arrangements(), 4 + 11);
  }

  private static void finalEdges() {
    DifferenceMill m = new DifferenceMill();
    int v = m.variable();
    int w = m.variable();
    int none = m.recursion(v, w, m.join(v, w, 'l'));
    int in = m.input();
    int body = m.recursion(none, w, m.map(in, 's', 0));
    int base = m.recursion(in, v, v);
    for (int view : new int[] {v, w, none}) {
      eq("29 made of no input " + view, m.isFinal(view, 9, 9), true);
    }
    for (int view : new int[] {in, body, base}) {
      eq("29 made of an input " + view, m.isFinal(view, 0, 0), false);
    }
    m.close(0, 5);
    eq("29 closed", m.isFinal(body, 0, 5) && m.isFinal(base, 0, 0), true);
    eq("29 open", m.isFinal(body, 1, 0) || m.isFinal(base, 0, 6), false);
    m.close(5, 5);
    m.forget(4, 4);
    eq("29 at a forgotten time", m.isFinal(in, 0, 0), true);
    eq("29 not behind, but open", m.isFinal(in, 0, 9), false);
  }

  private static void keptOrder() {
    DifferenceMill m = mill(MAX, 0, 1, 0, 0, MIN, 0, 2, 0, 0, 0, MAX, 3, 0, 0, 0, MIN, 4, 0, 0,
        0, -1, 5, 0, 0, -1, 0, 6, 0, 0, 0, 0, 7, 0, 0);
    eq("19 rising keys and values", last(m, 0), MIN + ",0:2 -1,0:6 0," + MIN + ":4 0,-1:5 0,0:7 0,"
        + MAX + ":3 " + MAX + ",0:1");
    DifferenceMill t = mill(5, 5, 1, 1, 0, 5, 5, 2, 0, 1, -5, 5, 3, 1, 0, 5, -5, 4, 1, 0, 9, 9, 5, 0, 0,
        1, 1, 6, 0, 9, 1, 1, 7, 9, 0);
    eq("24 rising times, keys, values", diffs(t, 0),
        "9,9:5@0 5,5:2@1 1,1:6@9 -5,5:3@10 5,-5:4@10 5,5:1@10 1,1:7@90");
    eq("30 in all", t.found(), 7L);
    t.rows(0, 0, 9);
    eq("30 rows too", t.found(), 10L);
    t.weight(0, 5, 5, 9, 9);
    t.explain(0, 5, 5, 9, 9);
    t.errors(0, 9, 9);
    t.isSound();
    eq("30 not for others", t.found(), 10L);
    eq("23 of rows", t.timeAt(0) + t.timeAt(2), 18);
  }
}
