import java.util.TreeMap;

/** At least one check for each promise: ordinary calls, edges that the document names, wrong calls. */
public final class PromiseTest extends Checks {
  public static void main(String[] args) {
    newObject();
    fullPlan();
    maps();
    filters();
    sums();
    joins();
    groups();
    medians();
    distincts();
    recursions();
    recursionScopes();
    arrangements();
    changes();
    closing();
    forgetting();
    rows();
    differences();
    differencesAddUp();
    manyDifferences();
    weights();
    errors();
    explaining();
    explainingMany();
    finals();
    figures();
    soundness();
    end("all promises hold");
  }

  private static DifferenceMill full() {
    DifferenceMill m = new DifferenceMill();
    m.input();
    m.variable();
    while (m.views() < 20) {
      m.input();
    }
    return m;
  }

  private static void newObject() {
    DifferenceMill m = new DifferenceMill();
    eq("1 views", m.views(), 0);
    eq("1 changes", m.changes(), 0);
    eq("1 arrangements", m.arrangements(), 0);
    eq("1 found", m.found(), 0L);
    eq("1 closedShare", m.closedShare(), 0.0f);
    eq("1 isSound", m.isSound(), true);
    fails("1 keyAt", BOUNDS, () -> m.keyAt(0));
    fails("1 explained", BOUNDS, () -> m.explained(0));
    fails("1 meanWeight", ARITHMETIC, m::meanWeight);
    fails("1 rows", BOUNDS, () -> m.rows(0, 0, 0));
  }

  private static void fullPlan() {
    DifferenceMill m = full();
    eq("12 views", m.views(), 20);
    fails("2 input", STATE, m::input);
    fails("3 map", STATE, () -> m.map(0, 's', 0));
    fails("3 map view first", BOUNDS, () -> m.map(20, '?', 0));
    fails("3 map kind first", ARGUMENT, () -> m.map(0, '?', 0));
    fails("4 filter", STATE, () -> m.filter(0, 'o', 0));
    fails("4 filter kind first", ARGUMENT, () -> m.filter(0, '>', 0));
    fails("5 sum", STATE, () -> m.sum(0, 1));
    fails("6 negative", STATE, () -> m.negative(0));
    fails("7 join", STATE, () -> m.join(0, 1, 'l'));
    fails("7 join kind first", ARGUMENT, () -> m.join(0, 1, 'r'));
    fails("8 group", STATE, () -> m.group(0, 'c', 0));
    fails("8 group kind first", ARGUMENT, () -> m.group(0, 't', 0));
    fails("9 distinct", STATE, () -> m.distinct(0));
    fails("10 variable", STATE, m::variable);
    fails("11 recursion", STATE, () -> m.recursion(0, 1, 0));
    fails("11 recursion no variable first", ARGUMENT, () -> m.recursion(0, 0, 0));
    fails("11 recursion no view first", BOUNDS, () -> m.recursion(0, 0, 20));
    eq("12 views still", m.views(), 20);
  }

  private static void maps() {
    DifferenceMill m = mill(5, -7, 2, 0, 0, 0, 4, 3, 0, 0, -2, MAX, 1, 0, 0);
    eq("3 number", m.map(0, 's', 99), 1);
    eq("3 s", last(m, 1), "-7,5:2 4,0:3 " + MAX + ",-2:1");
    eq("3 +", last(m, m.map(0, '+', 1)), "-2," + MIN + ":1 0,5:3 5,-6:2");
    eq("3 + negative", last(m, m.map(0, '+', -1)), "-2," + (MAX - 1) + ":1 0,3:3 5,-8:2");
    eq("3 r", last(m, m.map(0, 'r', 3)), "1,4:3 1," + MAX + ":1 2,-7:2");
    eq("3 r 1", last(m, m.map(0, 'r', 1)), "0,-7:2 0,4:3 0," + MAX + ":1");
    eq("3 r 9", last(m, m.map(0, 'r', 9)), "1," + MAX + ":1 2,-7:2 4,4:3");
    eq("3 z", last(m, m.map(0, 'z', -5)), "0,-7:2 0,4:3 0," + MAX + ":1");
    eq("3 d", last(m, m.map(0, 'd', 0)), "-2," + (MAX / -2) + ":1 5,-1:2");
    for (int n : new int[] {0, 10, -1, MIN, MAX}) {
      fails("3 r " + n, ARGUMENT, () -> m.map(0, 'r', n));
    }
    fails("3 no kind", ARGUMENT, () -> m.map(0, 'S', 1));
    fails("3 no view", BOUNDS, () -> m.map(-1, 's', 1));
    fails("3 no view above", BOUNDS, () -> m.map(m.views(), 's', 1));
    DifferenceMill least = mill(-1, MIN, 1, 0, 0);
    eq("3 d wraps", last(least, least.map(0, 'd', 0)), "-1," + MIN + ":1");
    DifferenceMill same = mill(1, 4, 1, 0, 0, 2, 4, -3, 0, 0, 3, 4, 2, 1, 0);
    eq("3 z added", last(same, same.map(0, 'z', 0)), "");
    eq("3 z added by times", diffs(same, 1), "0,4:-2@0 0,4:2@10");
  }

  private static void filters() {
    DifferenceMill m = mill(1, 1, 1, 0, 0, 1, 2, -1, 0, 0, 3, 2, 5, 0, 0, 2, 9, 1, 0, 0);
    eq("4 number", m.filter(0, '<', 2), 1);
    eq("4 <", last(m, 1), "1,1:1");
    eq("4 =", last(m, m.filter(0, '=', 2)), "1,2:-1 3,2:5");
    eq("4 k", last(m, m.filter(0, 'k', 1)), "1,1:1 1,2:-1");
    eq("4 o", last(m, m.filter(0, 'o', 77)), "1,2:-1 2,9:1");
    fails("4 no kind", ARGUMENT, () -> m.filter(0, '>', 2));
    fails("4 no view", BOUNDS, () -> m.filter(9, '<', 2));
  }

  private static void sums() {
    DifferenceMill m = mill(1, 1, 1, 0, 0, 1, 2, MAX, 0, 0, 4, 4, MIN, 0, 0);
    m.input();
    m.change(1, 1, 1, -1, 0, 0);
    m.change(1, 1, 2, 1, 0, 0);
    m.change(1, 0, 2, 7, 0, 0);
    eq("5 number", m.sum(0, 1), 2);
    eq("5 rows", last(m, 2), "0,2:7 1,2:" + MIN + " 4,4:" + MIN);
    eq("5 itself", last(m, m.sum(0, 0)), "1,1:2 1,2:-2");
    fails("5 no view", BOUNDS, () -> m.sum(0, 9));
    fails("5 no first view", BOUNDS, () -> m.sum(-1, 0));
    eq("6 number", m.negative(0), 4);
    eq("6 rows", last(m, 4), "1,1:-1 1,2:" + -MAX + " 4,4:" + MIN);
    eq("6 with itself", last(m, m.sum(0, 4)), "");
    fails("6 no view", BOUNDS, () -> m.negative(-1));
  }

  private static void joins() {
    DifferenceMill m = mill(1, 10, 2, 0, 3, 1, 11, -1, 0, 0, 2, 12, 1, 0, 0);
    m.input();
    m.change(1, 1, 20, 3, 2, 1);
    m.change(1, 2, -2, 5, 0, 0);
    m.change(1, 3, 30, 1, 0, 0);
    eq("7 number", m.join(0, 1, 'l'), 2);
    eq("7 l", diffs(m, 2), "12,-2:5@0 11,20:-3@21 10,20:6@23");
    eq("7 p", diffs(m, m.join(0, 1, 'p')), "2,10:5@0 1,31:-3@21 1,30:6@23");
    eq("7 e", diffs(m, m.join(0, 1, 'e')), "2,12:5@0 1,11:-3@21 1,10:6@23");
    eq("7 itself", last(m, m.join(0, 0, 'p')), "1,20:4 1,21:-4 1,22:1 2,24:1");
    fails("7 no kind", ARGUMENT, () -> m.join(0, 1, 'x'));
    fails("7 no view", BOUNDS, () -> m.join(9, 0, 'l'));
    fails("7 no other view", BOUNDS, () -> m.join(0, 9, 'l'));
    DifferenceMill wraps = mill(0, MAX, 65536, 0, 0, 0, 1, 32768, 0, 0);
    eq("7 wraps", last(wraps, wraps.join(0, 0, 'p')), "0,2:" + (1 << 30));
  }

  private static void groups() {
    DifferenceMill m = mill(1, 5, 2, 0, 0, 1, 3, 1, 0, 0, 1, 9, -4, 0, 0, 2, -1, 3, 0, 0,
        1, -8, 1, 0, 0, 3, 1, -1, 0, 0);
    eq("8 number", m.group(0, 'c', 0), 1);
    eq("8 c", last(m, 1), "1,4:1 2,3:1");
    eq("8 s", last(m, m.group(0, 's', 0)), "1,5:1 2,-3:1");
    eq("8 l", last(m, m.group(0, 'l', 0)), "1,-8:1 2,-1:1");
    eq("8 g", last(m, m.group(0, 'g', 0)), "1,5:1 2,-1:1");
    eq("8 m", last(m, m.group(0, 'm', 0)), "1,3:1 2,-1:1");
    eq("8 t 2", last(m, m.group(0, 't', 2)), "1,3:1 1,5:2 2,-1:3");
    eq("8 t 9", last(m, m.group(0, 't', 9)), "1,-8:1 1,3:1 1,5:2 2,-1:3");
    for (int n : new int[] {0, 10, -1}) {
      fails("8 t " + n, ARGUMENT, () -> m.group(0, 't', n));
    }
    eq("8 c any number", m.group(0, 'c', -4), 8);
    fails("8 no kind", ARGUMENT, () -> m.group(0, 'a', 1));
    fails("8 no view", BOUNDS, () -> m.group(-1, 'c', 1));
    DifferenceMill big = mill(0, 1, MAX, 0, 0, 0, 2, MAX, 0, 0, 1, 3, MAX, 0, 0);
    eq("8 c at most", last(big, big.group(0, 'c', 0)), "0," + MAX + ":1 1," + MAX + ":1");
    eq("8 m does not wrap", last(big, big.group(0, 'm', 0)), "0,1:1 1,3:1");
    eq("8 s wraps", last(big, big.group(0, 's', 0)), "0," + (MAX + 2 * MAX) + ":1 1," + 3 * MAX + ":1");
    DifferenceMill later = mill(1, 5, 1, 0, 2, 1, 6, 1, 2, 0, 1, 6, -1, 3, 3);
    eq("8 by times", diffs(later, later.group(0, 'g', 0)), "1,5:1@2 1,6:1@20 1,5:-1@22 1,5:1@33 1,6:-1@33");
    eq("8 c by times", diffs(later, later.group(0, 'c', 0)),
        "1,1:1@2 1,1:1@20 1,1:-2@22 1,2:1@22 1,1:1@33 1,2:-1@33");
  }

  private static void medians() {
    DifferenceMill m = mill(0, 1, 1, 0, 0, 0, 2, 1, 1, 0, 0, 3, 1, 2, 0, 0, 4, 2, 3, 0, 0, 9, 5, 4, 0);
    int view = m.group(0, 'm', 0);
    int[] due = {1, 1, 2, 3, 4};
    for (int a = 0; a < due.length; a++) {
      m.rows(view, a, 0);
      eq("8 median at " + a, m.valueAt(0), due[a]);
    }
  }

  private static void distincts() {
    DifferenceMill m = mill(1, 1, 3, 0, 1, 1, 1, 2, 1, 0, 2, 2, -1, 0, 0, 1, 1, -5, 5, 5);
    eq("9 number", m.distinct(0), 1);
    eq("9 differences", diffs(m, 1), "1,1:1@1 1,1:1@10 1,1:-1@11 1,1:-1@55");
    eq("9 rows", last(m, 1), "");
    fails("9 no view", BOUNDS, () -> m.distinct(1000));
  }

  private static void recursions() {
    DifferenceMill m = mill(1, 2, 1, 0, 0, 2, 3, 1, 0, 0, 3, 1, 1, 1, 0);
    eq("10 number", m.variable(), 1);
    eq("10 empty", last(m, 1), "");
    int body = m.join(m.map(1, 's', 0), 0, 'l');
    eq("11 number", m.recursion(0, 1, body), 4);
    eq("11 body outside", last(m, body), "");
    eq("11 rows", m.rows(4, 0, 0), 3);
    eq("11 rows a later time", m.rows(4, 1, 1), 9);
    eq("11 weights", m.weight(4, 1, 3, 9, 9), 1);
    fails("11 no base", BOUNDS, () -> m.recursion(9, 1, 0));
    fails("11 no variable view", BOUNDS, () -> m.recursion(0, 9, 0));
    fails("11 no body", BOUNDS, () -> m.recursion(0, 1, 9));
    fails("11 is no variable", ARGUMENT, () -> m.recursion(0, 0, 1));
    DifferenceMill count = mill(0, 0, 4, 0, 0);
    count.variable();
    int more = count.recursion(0, 1, count.map(1, '+', 1));
    eq("11 30 times", count.rows(more, 9, 9), 31);
    eq("11 last", count.valueAt(30), 30);
    eq("11 weight 1", count.weightAt(0), 1);
    DifferenceMill flip = mill(0, 0, 1, 0, 0);
    flip.variable();
    int not = flip.negative(1);
    eq("11 even rounds", last(flip, flip.recursion(0, 1, not)), "0,0:1");
    eq("11 body of no variable", last(flip, flip.recursion(0, 1, flip.map(0, '+', 3))), "0,0:1 0,3:1");
    eq("11 body is the variable", last(flip, flip.recursion(0, 1, 1)), "0,0:1");
    eq("11 base of less than 0", last(flip, flip.recursion(flip.negative(0), 1, 0)), "");
  }

  private static void recursionScopes() {
    DifferenceMill m = mill(0, 0, 1, 0, 0);
    int v = m.variable();
    int w = m.variable();
    int inner = m.recursion(v, w, m.map(w, '+', 1));
    eq("11 base by a variable", last(m, inner), "");
    int twice = m.recursion(0, v, m.filter(inner, '<', 50));
    eq("11 inside of another", m.rows(twice, 9, 9), 50);
    int same = m.recursion(v, v, m.map(v, '+', 2));
    int outer = m.recursion(0, v, m.filter(same, '<', 100));
    eq("11 its own variable in the base", m.rows(outer, 9, 9), 50);
    eq("11 greatest", m.valueAt(49), 98);
    int both = m.recursion(w, v, m.sum(v, w));
    eq("11 other variables around", last(m, m.recursion(0, w, m.map(both, '+', 0))), "0,0:1");
  }

  private static void arrangements() {
    DifferenceMill m = mill();
    m.input();
    m.input();
    m.join(0, 1, 'l');
    eq("13 joins", m.arrangements(), 2);
    m.join(0, 0, 'l');
    m.group(1, 'c', 0);
    eq("13 once", m.arrangements(), 2);
    m.group(2, 'c', 0);
    m.distinct(3);
    m.sum(3, 4);
    m.variable();
    m.recursion(3, 9, 5);
    eq("13 no others", m.arrangements(), 3);
  }

  private static void changes() {
    DifferenceMill m = mill();
    m.map(0, 's', 0);
    eq("14 first", m.change(0, 1, 2, 3, 9, 9), 1);
    eq("14 same again", m.change(0, 1, 2, 3, 9, 9), 2);
    eq("14 added", last(m, 0), "1,2:6");
    eq("14 one difference", m.differences(0), 1);
    fails("14 no view", BOUNDS, () -> m.change(2, 1, 2, 0, 10, 0));
    fails("14 no input", ARGUMENT, () -> m.change(1, 1, 2, 1, 0, 0));
    fails("14 weight 0", ARGUMENT, () -> m.change(0, 1, 2, 0, 0, 0));
    fails("14 no time", ARGUMENT, () -> m.change(0, 1, 2, 1, 0, 10));
    fails("14 no time below", ARGUMENT, () -> m.change(0, 1, 2, 1, -1, 0));
    m.close(1, 1);
    fails("14 closed", UNSUPPORTED, () -> m.change(0, 1, 2, 1, 1, 0));
    fails("14 no weight first", ARGUMENT, () -> m.change(0, 1, 2, 0, 1, 0));
    while (m.changes() < 16) {
      m.change(0, 1, 2, 1, 2, 0);
    }
    fails("14 16 changes", STATE, () -> m.change(0, 1, 2, 1, 2, 0));
    fails("14 closed first", UNSUPPORTED, () -> m.change(0, 1, 2, 1, 1, 1));
    eq("18 changes", m.changes(), 16);
    eq("14 wraps", m.weight(0, 1, 2, 9, 9), 20);
  }

  private static void closing() {
    DifferenceMill m = mill();
    eq("15 first", m.close(1, 2), 6);
    eq("15 again", m.close(1, 2), 6);
    eq("15 more", m.close(2, 0), 7);
    eq("16 up to", m.isClosed(0, 0), true);
    eq("16 itself", m.isClosed(2, 0), true);
    eq("16 not up to", m.isClosed(2, 1), false);
    eq("16 not up to b", m.isClosed(0, 3), false);
    fails("15 no time", ARGUMENT, () -> m.close(10, 0));
    fails("15 no time b", ARGUMENT, () -> m.close(0, -1));
    fails("16 no time", ARGUMENT, () -> m.isClosed(0, 10));
    eq("31 share", m.closedShare(), 7.0f / 100.0f);
    eq("15 all", m.close(9, 9), 100);
    eq("31 all", m.closedShare(), 1.0f);
  }

  private static void forgetting() {
    DifferenceMill m = mill(1, 1, 1, 0, 1, 2, 2, 5, 0, 0, 1, 1, 2, 1, 0, 3, 3, 1, 0, 3,
        4, 4, 1, 1, 1, 4, 4, -1, 0, 0, 1, 1, 1, 3, 0);
    fails("17 no time", ARGUMENT, () -> m.forget(0, 10));
    fails("17 not closed", UNSUPPORTED, () -> m.forget(0, 0));
    m.close(2, 2);
    eq("17 left", m.forget(1, 1), 4);
    eq("17 times", diffs(m, 0), "1,1:3@11 2,2:5@11 3,3:1@13 1,1:1@31");
    m.explain(0, 2, 2, 9, 9);
    eq("17 numbers", m.explained(0), 1);
    m.explain(0, 3, 3, 9, 9);
    eq("17 numbers behind", m.explained(0), 2);
    fails("19 forgotten", STATE, () -> m.rows(0, 1, 0));
    fails("25 forgotten", STATE, () -> m.weight(0, 1, 1, 0, 9));
    fails("26 forgotten", STATE, () -> m.errors(0, 0, 9));
    fails("27 forgotten", STATE, () -> m.explain(0, 1, 1, 0, 9));
    eq("19 at it", m.rows(0, 1, 1), 2);
    fails("17 not behind", STATE, () -> m.forget(2, 0));
    fails("17 not closed first", UNSUPPORTED, () -> m.forget(9, 0));
    eq("17 again", m.forget(1, 1), 4);
    eq("29 forgotten is final", m.isFinal(0, 0, 0), true);
    eq("17 open time not behind it", m.change(0, 7, 7, 1, 0, 3), 5);
    eq("17 keeps its time", diffs(m, 0), "7,7:1@3 1,1:3@11 2,2:5@11 3,3:1@13 1,1:1@31");
    DifferenceMill none = mill(1, 1, 1, 0, 0, 1, 1, -1, 0, 0, 1, 1, 2, 0, 0, 2, 2, 1, 0, 0, 2, 2, -1, 0, 0);
    none.close(0, 0);
    eq("17 at the first time", none.forget(0, 0), 1);
    eq("17 what is left", diffs(none, 0), "1,1:2@0");
  }

  private static void rows() {
    DifferenceMill m = mill(3, 1, 1, 0, 0, -3, 4, 2, 0, 0, 3, -1, 1, 1, 1, 3, 1, -1, 2, 0);
    eq("19 count", m.rows(0, 1, 1), 3);
    eq("19 order", kept(m, 3, true), "-3,4:2@11 3,-1:1@11 3,1:1@11");
    fails("20 above", BOUNDS, () -> m.keyAt(3));
    fails("20 below", BOUNDS, () -> m.keyAt(-1));
    fails("21 above", BOUNDS, () -> m.valueAt(3));
    fails("22 above", BOUNDS, () -> m.weightAt(MAX));
    fails("23 below", BOUNDS, () -> m.timeAt(MIN));
    fails("19 no view", BOUNDS, () -> m.rows(1, 10, 0));
    fails("19 no time", ARGUMENT, () -> m.rows(0, 10, 0));
    eq("19 kept still", m.keyAt(0), -3);
    eq("19 weight 0", last(m, 0), "-3,4:2 3,-1:1");
    eq("30 found", m.found(), 5L);
    eq("19 earlier", m.rows(0, 0, 9), 2);
    m.variable();
    eq("19 none", m.rows(1, 9, 9), 0);
    fails("20 none", BOUNDS, () -> m.keyAt(0));
    eq("30 found more", m.found(), 7L);
  }

  private static void differences() {
    DifferenceMill m = mill(2, 2, 1, 1, 0, 2, 1, 1, 0, 9, 2, 1, 4, 1, 0, -1, 7, 1, 1, 0, 5, 5, 1, 3, 3, 5, 5, -1, 3, 3);
    eq("24 order", diffs(m, 0), "2,1:1@9 -1,7:1@10 2,1:4@10 2,2:1@10");
    eq("24 found", m.found(), 4L);
    fails("24 no view", BOUNDS, () -> m.differences(1));
    fails("24 no view below", BOUNDS, () -> m.differences(-1));
  }

  private static DifferenceMill oneOfEach() {
    DifferenceMill m = mill(1, 2, 1, 0, 1, 2, 1, 2, 1, 0, 1, 2, 1, 2, 2, 1, 2, -2, 3, 1, 2, 3, 1, 1, 2);
    int other = m.input();
    tell(m, other, 2, 2, 1, 2, 0, 1, 5, -1, 0, 3);
    int v = m.variable();
    m.map(0, 's', 0);
    m.map(0, 'd', 0);
    m.filter(0, '=', 2);
    m.sum(0, other);
    m.negative(other);
    m.join(0, other, 'p');
    for (char kind : new char[] {'c', 's', 'l', 'g', 'm', 't'}) {
      m.group(0, kind, 1);
    }
    m.distinct(0);
    m.recursion(0, v, m.filter(m.join(v, other, 'l'), '<', 9));
    return m;
  }

  /** At each time a view has the sums of its differences up to it, and no other rows. */
  private static void differencesAddUp() {
    for (int v = 0; v < oneOfEach().views(); v++) {
      DifferenceMill m = oneOfEach();
      int count = m.differences(v);
      long[] row = new long[count];
      int[] weight = new int[count];
      int[] time = new int[count];
      for (int i = 0; i < count; i++) {
        row[i] = ((long) m.keyAt(i) << 32) + m.valueAt(i);
        weight[i] = m.weightAt(i);
        time[i] = m.timeAt(i);
        eq("24 other than 0, view " + v, weight[i] != 0, true);
      }
      for (int t : new int[] {0, 1, 3, 9, 10, 11, 12, 20, 21, 22, 23, 30, 31, 33, 90, 99}) {
        TreeMap<Long, Integer> sums = new TreeMap<>();
        for (int i = 0; i < count; i++) {
          boolean upTo = time[i] / 10 <= t / 10 && time[i] % 10 <= t % 10;
          sums.merge(row[i], upTo ? weight[i] : 0, Integer::sum);
        }
        sums.values().removeIf(sum -> sum == 0);
        StringBuilder due = new StringBuilder();
        sums.forEach((r, sum) -> due.append(due.length() == 0 ? "" : " ")
            .append((int) ((r - (int) (long) r) >> 32)).append(',').append((int) (long) r)
            .append(':').append(sum));
        eq("19 view " + v + " at " + t, at(m, v, t / 10, t % 10), due.toString());
      }
    }
  }

  /** Views of 300 differences, of 256 that are made of more, and of more than 300. */
  private static void manyDifferences() {
    DifferenceMill m = mill();
    m.input();
    for (int i = 0; i < 8; i++) {
      m.change(0, 0, 100 * i, 1, 0, 0);
      m.change(1, 0, i, 1, 0, 0);
    }
    int pairs = m.join(0, 1, 'p');
    eq("19 64 rows", m.rows(pairs, 9, 9), 64);
    int four = m.sum(m.sum(pairs, m.map(pairs, '+', 10)), m.sum(m.map(pairs, '+', 20), m.map(pairs, '+', 30)));
    eq("19 256 rows", m.rows(four, 9, 9), 256);
    int five = m.sum(four, m.map(pairs, '+', 40));
    fails("19 320 rows", UNSUPPORTED, () -> m.rows(five, 9, 9));
    fails("19 at any time", UNSUPPORTED, () -> m.rows(five, 0, 0));
    int few = m.filter(five, '=', 1);
    fails("19 made of it", UNSUPPORTED, () -> m.rows(few, 9, 9));
    fails("24 made of it", UNSUPPORTED, () -> m.differences(few));
    fails("25 made of it", UNSUPPORTED, () -> m.weight(few, 0, 1, 9, 9));
    fails("26 made of it", UNSUPPORTED, () -> m.errors(few, 9, 9));
    fails("27 made of it", UNSUPPORTED, () -> m.explain(few, 0, 1, 9, 9));
    int cut = m.filter(m.map(pairs, '+', 40), '<', 484);
    int edge = m.sum(four, cut);
    eq("19 up to 300", m.rows(edge, 9, 9), 296);
    eq("19 kept still", m.valueAt(295), 737);
    int edgeMore = m.sum(edge, m.filter(pairs, '<', 4));
    eq("33 too big ones", m.isSound(), true);
    eq("5 added rows", m.rows(edgeMore, 9, 9), 296);
    DifferenceMill exact = mill();
    for (int i = 0; i < 15; i++) {
      exact.change(0, 0, i, 1, i % 10, 0);
    }
    int lower = 0;
    for (int i = 0; i < 4; i++) {
      lower = exact.sum(lower, exact.map(lower, '+', 15 << i));
    }
    eq("24 240", exact.differences(lower), 240);
    int sixty = exact.filter(lower, '<', 60);
    int threeHundred = exact.sum(lower, exact.map(sixty, '+', 240));
    eq("24 300", exact.differences(threeHundred), 300);
    eq("19 300", exact.rows(threeHundred, 9, 9), 300);
    exact.change(0, 1, 0, 1, 9, 9);
    fails("24 above 300", UNSUPPORTED, () -> exact.differences(threeHundred));
    eq("30 found", exact.found(), 840L);
  }

  private static void weights() {
    DifferenceMill m = mill(1, 2, MAX, 0, 0, 1, 2, 1, 1, 1, 1, 3, -4, 0, 0);
    eq("25 at first", m.weight(0, 1, 2, 0, 9), MAX);
    eq("25 wraps", m.weight(0, 1, 2, 1, 1), MIN);
    eq("25 less than 0", m.weight(0, 1, 3, 5, 0), -4);
    eq("25 no such row", m.weight(0, 2, 1, 5, 0), 0);
    fails("25 no view", BOUNDS, () -> m.weight(3, 1, 2, 0, 10));
    fails("25 no time", ARGUMENT, () -> m.weight(0, 1, 2, 0, 10));
    eq("25 keeps nothing", m.found(), 0L);
  }

  private static void errors() {
    DifferenceMill m = mill(0, 6, 2, 0, 0, 0, 8, 3, 2, 0, 1, 1, 1, 0, 0, 0, 6, -2, 3, 3);
    int d = m.map(0, 'd', 0);
    int again = m.map(m.map(d, 'z', 0), 'd', 0);
    eq("26 itself", m.errors(d, 0, 0), 2);
    eq("26 later", m.errors(d, 2, 0), 5);
    eq("26 taken back", m.errors(d, 3, 3), 3);
    eq("26 an input", m.errors(0, 9, 9), 0);
    eq("26 both maps", m.errors(again, 0, 0), 3);
    eq("26 once", m.errors(m.sum(again, d), 0, 0), 3);
    int v = m.variable();
    int inside = m.map(v, 'd', 0);
    int loop = m.recursion(0, v, inside);
    eq("26 outside of recursions", m.errors(loop, 9, 9), 0);
    int beside = m.map(m.sum(v, 0), 'd', 0);
    eq("26 of a body", m.errors(m.recursion(0, v, beside), 9, 9), 3);
    eq("26 of a base", m.errors(m.recursion(d, v, v), 9, 9), 3);
    fails("26 no view", BOUNDS, () -> m.errors(99, 9, 9));
    fails("26 no time", ARGUMENT, () -> m.errors(0, 9, 99));
    DifferenceMill wraps = mill(0, 1, MAX, 0, 0, 0, 2, 1, 0, 0);
    eq("26 wraps", wraps.errors(wraps.map(0, 'd', 0), 0, 0), MIN);
  }

  private static void explaining() {
    DifferenceMill m = mill(1, 1, 1, 0, 0, 1, 2, -1, 0, 0, 1, 2, 2, 1, 0, 1, 1, 1, 0, 1);
    m.input();
    m.change(1, 1, 7, 1, 3, 0);
    m.change(1, 1, 7, 1, 0, 0);
    int pairs = m.join(0, 1, 'l');
    eq("27 first of several", m.explain(0, 1, 1, 9, 9), 1);
    eq("28 first of several", m.explained(0), 0);
    fails("28 no more", BOUNDS, () -> m.explained(1));
    fails("28 below", BOUNDS, () -> m.explained(-1));
    eq("27 alone it is more than 0", m.explain(0, 1, 2, 1, 0), 1);
    eq("28 it", m.explained(0), 2);
    fails("27 too early", NO_ELEMENT, () -> m.explain(0, 1, 2, 0, 9));
    eq("28 kept still", m.explained(0), 2);
    eq("27 two", m.explain(pairs, 1, 7, 9, 9), 2);
    eq("28 rising", m.explained(0) * 10 + m.explained(1), 4);
    eq("27 two at a time", m.explain(pairs, 1, 7, 2, 9), 2);
    eq("28 others", m.explained(0) * 10 + m.explained(1), 5);
    fails("28 just two", BOUNDS, () -> m.explained(2));
    fails("27 no row", NO_ELEMENT, () -> m.explain(pairs, 7, 1, 9, 9));
    fails("27 no view", BOUNDS, () -> m.explain(9, 7, 1, 9, 9));
    fails("27 no time", ARGUMENT, () -> m.explain(0, 7, 1, 9, 10));
    int less = m.negative(0);
    eq("27 of less than 0", m.explain(less, 1, 2, 9, 9), 1);
    eq("28 of less than 0", m.explained(0), 1);
    int three = m.join(pairs, m.map(pairs, '+', 0), 'l');
    eq("27 with others still", m.explain(three, 7, 7, 9, 9), 2);
  }

  /** One change alone makes more than 300 differences that another one takes back. */
  private static void explainingMany() {
    DifferenceMill m = mill(0, 5, 1, 0, 0, 0, 0, 1, 0, 0, 0, 0, -1, 0, 0);
    int wide = m.filter(0, '<', 1);
    for (int i = 0; i < 9; i++) {
      wide = m.sum(wide, m.map(wide, '+', -(1 << i)));
    }
    eq("19 nothing is left", m.rows(wide, 9, 9), 0);
    int asked = wide;
    fails("27 a set that is tried", UNSUPPORTED, () -> m.explain(asked, 0, 0, 9, 9));
    eq("27 found ahead of it", m.explain(0, 0, 5, 9, 9), 1);
    eq("28 found ahead of it", m.explained(0), 0);
  }

  private static void finals() {
    DifferenceMill m = mill();
    int v = m.variable();
    int w = m.map(v, '+', 1);
    eq("29 open", m.isFinal(0, 0, 0), false);
    eq("29 a variable", m.isFinal(v, 0, 0), true);
    eq("29 made of a variable", m.isFinal(w, 0, 0), true);
    eq("29 recursion of none", m.isFinal(m.recursion(v, v, w), 9, 9), true);
    eq("29 body of an input", m.isFinal(m.recursion(v, v, 0), 9, 9), false);
    eq("29 sum", m.isFinal(m.sum(v, 0), 9, 9), false);
    m.close(4, 4);
    eq("29 closed", m.isFinal(0, 4, 0), true);
    eq("29 not closed", m.isFinal(0, 5, 0), false);
    fails("29 no view", BOUNDS, () -> m.isFinal(-1, 0, 10));
    fails("29 no time", ARGUMENT, () -> m.isFinal(0, 0, 10));
  }

  private static void figures() {
    DifferenceMill m = mill(1, 1, 1, 0, 0, 2, 2, 2, 0, 0, 3, 3, -6, 0, 0, 4, 4, 2, 1, 0);
    m.rows(0, 0, 0);
    eq("32 mean", m.meanWeight(), -3.0 / 3.0);
    m.differences(0);
    eq("32 mean of differences", m.meanWeight(), -1.0 / 4.0);
    eq("30 both", m.found(), 7L);
    DifferenceMill big = mill(1, 1, MAX, 0, 0, 2, 2, MAX, 0, 0);
    big.rows(0, 0, 0);
    eq("32 does not wrap", big.meanWeight(), (double) MAX);
    big.variable();
    big.rows(1, 0, 0);
    fails("32 none", ARITHMETIC, big::meanWeight);
  }

  private static void soundness() {
    DifferenceMill m = mill(1, 2, 1, 0, 2, 2, 3, 1, 2, 0, 3, 1, 1, 1, 1, 2, 3, -1, 4, 4);
    int v = m.variable();
    m.recursion(0, v, m.map(m.join(v, 0, 'l'), 's', 0));
    m.group(4, 'm', 0);
    m.group(4, 't', 1);
    m.map(0, 'd', 0);
    eq("33 sound", m.isSound(), true);
    m.close(9, 9);
    m.forget(2, 2);
    eq("33 sound when forgotten", m.isSound(), true);
  }
}
