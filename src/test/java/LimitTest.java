/**
 * 300 differences and one more: for each kind of view, as it is and inside of a recursion, by all
 * changes and by sets that explain tries. One change more is told to the input `extra` to go over.
 */
public final class LimitTest extends Checks {
  /** A mill with an input of one row more, and a view of rows 0,0 to 0,n-1, all at the time 0, 0. */
  private static final class Bench {
    final DifferenceMill m = new DifferenceMill();
    final int extra = m.input();
    final int start = m.input();
    final int line;

    /* By a change for each 31 rows, and few views. */
    Bench(int n) {
      line = count(m.variable(), 1, n);
      for (int i = 0; i < n; i += 31) {
        m.change(start, 0, i, 1, 0, 0);
      }
    }

    /* 300 rows by one change, which is to be told yet. */
    Bench() {
      int v = m.variable();
      line = m.join(count(v, 20, 300), count(v, 1, 20), 'p');
    }

    private int count(int v, int step, int end) {
      return m.recursion(start, v, m.filter(m.map(v, '+', step), '<', end));
    }

    void more() {
      m.change(extra, 5000, 777, 1, 0, 0);
    }

    void less() {
      m.change(extra, 5000, 777, -1, 0, 0);
    }

    int first(int count) {
      return m.filter(line, '<', count);
    }

    int withExtra(int view) {
      return m.sum(view, extra);
    }
  }

  private interface Kind {
    /** A view of 300 differences that is over, or made of one that is, by one more row. */
    int make(Bench b, int extra);
  }

  public static void main(String[] args) {
    lines();
    sums();
    keepers();
    joins();
    groups();
    variables();
    recursions();
    roundsOfRecursions();
    basesWithBodies();
    bodiesOutside();
    eachKind();
    eachKindInside();
    eachKindToExplain();
    explainByOrder();
    explainInsideOfRecursions();
    errorsOfCountedMaps();
    keptOnes();
    manyAtOneTime();
    end("300 differences are kept, and no more");
  }

  private static void lines() {
    Bench b = new Bench(300);
    eq("24 the line", b.m.differences(b.line), 300);
    eq("24 its last row", b.m.valueAt(299), 299);
    eq("24 its part", b.m.differences(b.first(17)), 17);
  }

  private static void holds(String what, Bench b, int view, int due) {
    eq("24 " + what, b.m.differences(view), due);
    eq("19 " + what, outcome(() -> b.m.rows(view, 9, 9)) instanceof Integer, true);
    eq("25 " + what, b.m.weight(view, 123456, 1, 0, 0), 0);
    eq("26 " + what, b.m.errors(view, 0, 0), 0);
    fails("27 " + what, NO_ELEMENT, () -> b.m.explain(view, 123456, 1, 0, 0));
    eq("33 " + what, b.m.isSound(), true);
  }

  private static void goesOver(String what, Bench b, int view) {
    long found = b.m.found();
    fails("24 over: " + what, UNSUPPORTED, () -> b.m.differences(view));
    fails("19 over: " + what, UNSUPPORTED, () -> b.m.rows(view, 0, 0));
    fails("25 over: " + what, UNSUPPORTED, () -> b.m.weight(view, 123456, 1, 9, 9));
    fails("26 over: " + what, UNSUPPORTED, () -> b.m.errors(view, 9, 9));
    fails("27 over: " + what, UNSUPPORTED, () -> b.m.explain(view, 123456, 1, 0, 0));
    eq("30 over: " + what, b.m.found(), found);
    eq("33 over: " + what, b.m.isSound(), true);
  }

  /** 300 hold, one more does not, and 300 hold again when it is taken back. */
  private static void edge(String what, Bench b, int view) {
    holds(what, b, view, 300);
    b.more();
    goesOver(what, b, view);
    b.less();
    eq("24 again: " + what, b.m.differences(view), 300);
    eq("25 again: " + what, b.m.weight(view, 5000, 777, 9, 9), 0);
  }

  private static void sums() {
    Bench b = new Bench(300);
    edge("a sum", b, b.withExtra(b.line));
    Bench both = new Bench(300);
    int upper = both.m.map(both.first(120), '+', 300);
    int lower = both.m.filter(both.line, '<', 180);
    edge("a sum of three", both, both.m.sum(upper, both.withExtra(lower)));
    Bench same = new Bench(300);
    eq("24 a sum with itself", same.m.differences(same.m.sum(same.line, same.line)), 300);
    eq("24 a sum of none", same.m.differences(same.m.sum(same.line, same.m.negative(same.line))), 0);
  }

  /** A map, a filter, a negative have no more than their part, which must have at most 300. */
  private static void keepers() {
    for (char kind : new char[] {'s', '+', 'z', 'r'}) {
      Bench b = new Bench(300);
      edge("a map " + kind, b, b.m.map(b.withExtra(b.line), kind, 9));
    }
    Bench keys = new Bench(300);
    int keyed = keys.m.map(keys.m.map(keys.line, '+', 1), 's', 0);
    edge("a map d", keys, keys.m.map(keys.withExtra(keyed), 'd', 0));
    Bench b = new Bench(300);
    edge("a negative", b, b.m.negative(b.withExtra(b.line)));
    b = new Bench(300);
    edge("a filter <", b, b.m.filter(b.withExtra(b.line), '<', 10000));
    b = new Bench(300);
    edge("a filter k", b, b.m.filter(b.withExtra(b.line), 'k', 0));
    b = new Bench(300);
    int rest = b.m.map(b.line, '+', 1);
    edge("a filter o", b, b.m.filter(b.withExtra(rest), 'o', 0));
    Bench few = new Bench(300);
    int part = few.withExtra(few.line);
    int one = few.m.filter(part, '=', 7);
    eq("24 one of 300", few.m.differences(one), 1);
    few.more();
    goesOver("a filter of one row", few, one);
    goesOver("a map of such a filter", few, few.m.map(one, 's', 0));
    eq("24 of another view", few.m.differences(few.line), 300);
  }

  private static void joins() {
    Bench b = new Bench(300);
    int twenty = b.first(20);
    int fifteen = b.first(15);
    int more = b.withExtra(twenty);
    edge("a join", b, b.m.join(more, b.m.sum(fifteen, b.extra), 'l'));
    Bench other = new Bench(43);
    int seven = other.m.filter(other.line, '<', 7);
    fails("24 a join of 301", UNSUPPORTED,
        () -> other.m.differences(other.m.join(seven, other.line, 'l')));
    eq("24 a join of 294", other.m.differences(
        other.m.join(seven, other.m.filter(other.line, '<', 42), 'l')), 294);
    int added = other.m.join(other.line, other.line, 'p');
    eq("24 a join of 1849 pairs, 85 rows", other.m.differences(added), 85);
    int firsts = other.m.join(other.line, other.line, 'e');
    eq("24 a join of 1849 pairs, 43 rows", other.m.differences(firsts), 43);
  }

  /* An input to join with, of one row with the key 0 at the time: so rows have this time too. */
  private static int mark(Bench b, int first, int second) {
    int mark = b.m.input();
    b.m.change(mark, 0, 0, 1, first, second);
    return mark;
  }

  private static int atTwoTimes(Bench b) {
    int early = b.m.join(b.line, mark(b, 0, 2), 'e');
    return b.m.sum(early, b.m.join(b.line, mark(b, 2, 0), 'e'));
  }

  /* The rows v,1 at the time 0, 2 and v,2 at the time 2, 0, for v from 0 to the count less 1. */
  private static int twoOfEachKey(Bench b, int count) {
    int some = b.first(count);
    int one = b.m.map(b.m.join(some, mark(b, 0, 2), 'e'), 's', 0);
    int other = b.m.map(b.m.join(some, mark(b, 2, 0), 'e'), 's', 0);
    return b.m.sum(b.m.map(one, '+', 1), b.m.map(other, '+', 2));
  }

  /* How many differences a group has for each key of two rows at times that are apart. */
  private static int perKey(char kind) {
    return kind == 'c' ? 4 : kind == 's' ? 5 : 3;
  }

  private static void groups() {
    for (char kind : new char[] {'c', 's', 'l', 'g', 'm', 't'}) {
      int keys = 300 / perKey(kind);
      Bench b = new Bench(keys);
      int parts = b.withExtra(twoOfEachKey(b, keys));
      eq("24 parts of a group " + kind, b.m.differences(parts), 2 * keys);
      edge("a group " + kind, b, b.m.group(parts, kind, 1));
    }
    Bench b = new Bench(150);
    edge("a group of all", b, b.m.group(b.withExtra(twoOfEachKey(b, 150)), 't', 2));
    Bench ones = new Bench(300);
    int keyed = ones.m.map(ones.line, 's', 0);
    edge("a group of 300 keys", ones, ones.m.group(ones.withExtra(keyed), 'l', 0));
    Bench d = new Bench(100);
    edge("a distinct view", d, d.m.distinct(d.withExtra(atTwoTimes(d))));
  }

  /**
   * The rows so far of a recursion are what the variable has: too many of them in one round are too
   * many, though fewer are left. Each of 99 rows is told at two times that are apart: when they are
   * distinct, it has three differences. The row 0,-1 among the rows so far takes all 99 back.
   */
  private static void variables() {
    Bench b = new Bench(99);
    int rows = atTwoTimes(b);
    tell(b.m, b.extra, 0, -1, 1, 0, 0, 6000, 1, 1, 0, 0, 7000, 1, 1, 0, 0);
    int v = b.m.variable();
    int back = b.m.negative(b.m.join(rows, b.m.filter(v, '<', 0), 'e'));
    int base = b.withExtra(rows);
    int rec = b.m.recursion(base, v, back);
    eq("24 a base of 201", b.m.differences(base), 201);
    eq("24 distinct, 300", b.m.differences(b.m.distinct(base)), 300);
    eq("24 rows so far of 300", last(b.m, rec), "0,-1:1 6000,1:1 7000,1:1");
    b.more();
    eq("24 a base of 202", b.m.differences(base), 202);
    goesOver("rows so far of 301", b, rec);
    b.less();
    eq("24 rows so far of 300 again", b.m.differences(rec), 3);
  }

  private static void recursions() {
    for (int constants = 21; constants <= 22; constants++) {
      DifferenceMill m = new DifferenceMill();
      int growing = m.input();
      for (int i = 0; i < 9; i++) {
        m.change(growing, 1, 100 * i, 1, 0, 0);
      }
      int start = m.input();
      m.change(start, 0, 0, 1, 0, 0);
      int v = m.variable();
      int still = m.recursion(start, v, m.filter(m.map(v, '+', 1), '<', constants));
      int body = m.map(m.filter(v, 'k', 1), '+', 1);
      int rec = m.recursion(m.sum(growing, still), v, body);
      if (constants == 21) {
        eq("24 a recursion of 300", m.differences(rec), 300);
      } else {
        fails("24 a recursion of 301", UNSUPPORTED, () -> m.differences(rec));
        eq("24 its base", m.differences(still), 22);
      }
      eq("33 a recursion of " + (279 + constants), m.isSound(), true);
    }
  }

  /** A view of the body has one row more from the round on in which the variable has a value. */
  private static void roundsOfRecursions() {
    for (int value = 0; value <= 31; value++) {
      Bench b = new Bench(300);
      b.m.change(b.extra, 0, 0, 1, 0, 0);
      int v = b.m.variable();
      int wide = b.m.sum(b.line, b.m.map(b.m.filter(v, '=', value), '+', 1000));
      int body = b.m.sum(b.m.map(v, '+', 1), b.m.filter(wide, '=', 123456));
      int rec = b.m.recursion(b.extra, v, body);
      /* The value 30 comes in the last round, and no round is left to look at it. */
      eq("19 over in round " + (value + 1), outcome(() -> b.m.rows(rec, 9, 9)),
          value < 30 ? UNSUPPORTED : 31);
    }
  }

  /** What is added before it is distinct is no view: 600 of base and body that come to 300 or less. */
  private static void basesWithBodies() {
    Bench b = new Bench(300);
    int v = b.m.variable();
    int far = b.m.negative(b.m.map(b.line, '+', 1000));
    eq("24 a body of less than 0", b.m.differences(b.m.recursion(b.line, v, far)), 300);
    int back = b.m.negative(b.line);
    eq("24 a body that takes the base back", b.m.differences(b.m.recursion(b.line, v, back)), 0);
    int same = b.m.recursion(b.line, v, b.m.map(v, '+', 0));
    edge("a body of the same rows", b, b.m.recursion(b.withExtra(same), v, b.line));
    Bench half = new Bench(150);
    int w = half.m.variable();
    int upper = half.m.map(half.line, '+', 150);
    edge("a body of the other half", half, half.m.recursion(half.withExtra(upper), w, half.line));
  }

  private static void bodiesOutside() {
    Bench b = new Bench(300);
    int v = b.m.variable();
    int body = b.m.sum(b.line, b.m.map(b.line, '+', 1000));
    int rec = b.m.recursion(b.extra, v, b.m.filter(body, '<', 1));
    goesOver("a body of no variable", b, rec);
    int alone = b.m.recursion(b.line, v, v);
    holds("beside it", b, alone, 300);
  }

  /* Those that have no more than their part are over by their part. */
  private static final Kind[] KINDS = {
    (b, x) -> b.m.sum(b.line, x),
    (b, x) -> b.m.map(b.m.sum(b.line, x), '+', 3),
    (b, x) -> b.m.filter(b.m.sum(b.line, x), '<', 9999),
    (b, x) -> b.m.negative(b.m.sum(b.line, x)),
    (b, x) -> b.m.join(b.m.sum(b.first(20), x), b.m.sum(b.first(15), x), 'l'),
    (b, x) -> b.m.group(b.m.sum(b.m.map(b.line, 's', 0), x), 'g', 0),
    (b, x) -> b.m.group(b.m.sum(b.line, x), 't', 9),
    (b, x) -> b.m.distinct(b.m.sum(b.line, x)),
  };
  private static final int[] SIZES = {300, 300, 300, 300, 300, 300, 9, 300};

  private static void eachKind() {
    for (int k = 0; k < KINDS.length; k++) {
      Bench b = new Bench(300);
      int view = KINDS[k].make(b, b.extra);
      holds("kind " + k, b, view, SIZES[k]);
      b.more();
      goesOver("kind " + k, b, view);
    }
  }

  /** The extra row is in the view by the variable alone: outside of the recursion it is not there. */
  private static void eachKindInside() {
    for (int k = 0; k < KINDS.length; k++) {
      Bench b = new Bench(300);
      int v = b.m.variable();
      int view = KINDS[k].make(b, v);
      int rec = b.m.recursion(b.extra, v, b.m.filter(view, '=', 123456));
      holds("inside, kind " + k, b, rec, 0);
      b.more();
      goesOver("inside, kind " + k, b, rec);
      eq("24 outside, kind " + k, b.m.differences(view), SIZES[k]);
      b.less();
      eq("24 inside again, kind " + k, b.m.differences(rec), 0);
    }
  }

  /** All changes are 300 differences, or none, but two of them, or one alone, are too many. */
  private static void eachKindToExplain() {
    for (int k = 0; k < KINDS.length; k++) {
      String what = "27 kind " + k + ", ";
      Bench b = new Bench();
      int view = KINDS[k].make(b, b.extra);
      tell(b.m, b.start, 0, 0, 1, 0, 0);
      eq(what + "300", why(b.m, view, 123456, 1, 9, 9), NO_ELEMENT.toString());
      b.more();
      b.less();
      eq("24 all changes, kind " + k, b.m.differences(view), SIZES[k]);
      int key = b.m.keyAt(0);
      int value = b.m.valueAt(0);
      boolean less = b.m.weightAt(0) < 0;
      eq(what + "ahead of 301", why(b.m, view, key, value, 0, 0),
          less ? UNSUPPORTED.toString() : "0");
      b.m.explain(b.start, 0, 0, 0, 0);
      eq(what + "301 by 0 and 1", why(b.m, view, 123456, 1, 9, 9), UNSUPPORTED.toString());
      eq(what + "kept", b.m.explained(0), 0);
      Bench one = new Bench();
      int over = KINDS[k].make(one, one.m.map(one.m.map(one.start, '+', 778), '+', -1));
      tell(one.m, one.start, 0, 0, 1, 0, 0, 0, 0, -1, 0, 0);
      eq("24 none, kind " + k, one.m.differences(over), 0);
      eq(what + "over by 0", why(one.m, over, 123456, 1, 9, 9), UNSUPPORTED.toString());
    }
  }

  private static void explainByOrder() {
    DifferenceMill m = new DifferenceMill();
    int start = m.input();
    int v = m.variable();
    int line = m.recursion(start, v, m.map(v, '+', 1));
    int pairs = m.join(m.filter(line, '<', 43), m.filter(line, '<', 7), 'l');
    tell(m, start, 0, 12, 1, 0, 0, 0, 0, 1, 0, 0, 0, 0, -1, 0, 0, 0, 12, -1, 0, 0, 0, 1, 1, 0, 0);
    eq("24 all of them", m.rows(line, 9, 9), 31);
    eq("24 all pairs", m.rows(pairs, 9, 9), 186);
    eq("27 one", why(m, line, 0, 13, 9, 9), "0");
    eq("27 one alone", why(m, pairs, 30, 6, 9, 9), "1");
    eq("27 over in 0 and 1", why(m, pairs, 42, 6, 9, 9), UNSUPPORTED.toString());
    eq("27 not over", why(m, line, 0, 42, 9, 9), "0");
    DifferenceMill one = mill(0, 5, 1, 0, 0, 0, 0, 1, 0, 0, 0, 0, -1, 0, 0, 0, 3, 1, 0, 0);
    int wide = one.filter(0, '<', 1);
    for (int i = 0; i < 8; i++) {
      wide = one.sum(wide, one.map(wide, '+', 1 << i));
    }
    int some = one.sum(wide, 0);
    eq("27 ahead of 257", why(one, some, 0, 5, 9, 9), "0");
    eq("27 of 257", why(one, some, 0, 255, 9, 9), "1");
    eq("27 behind 257", why(one, some, 0, 3, 9, 9), "1");
  }

  private static void explainInsideOfRecursions() {
    for (int k = 0; k < KINDS.length; k++) {
      String what = "27 inside, kind " + k + ", ";
      Bench b = new Bench();
      int w = b.m.variable();
      int view = KINDS[k].make(b, w);
      int rec = b.m.recursion(b.extra, w, b.m.filter(view, '=', 123456));
      tell(b.m, b.start, 0, 0, 1, 0, 0);
      eq(what + "300", why(b.m, rec, 123456, 1, 9, 9), NO_ELEMENT.toString());
      b.more();
      b.less();
      eq("24 inside, all changes, kind " + k, b.m.differences(rec), 0);
      eq(what + "ahead of 301", why(b.m, rec, 5000, 777, 9, 9), "1");
      eq(what + "301 by 0 and 1", why(b.m, rec, 123456, 1, 9, 9), UNSUPPORTED.toString());
      eq(what + "kept", b.m.explained(0), 1);
      b.more();
      eq(what + "by all changes", why(b.m, rec, 5000, 777, 9, 9), UNSUPPORTED.toString());
      eq(what + "another view", why(b.m, b.line, 0, 299, 9, 9), "0");
    }
  }

  /** A map is counted as found outside of recursions: there its part may be over, or not. */
  private static void errorsOfCountedMaps() {
    for (int more = 0; more < 2; more++) {
      Bench b = new Bench(200);
      int taken = b.m.map(b.first(100), '+', 200);
      int mark = b.m.input();
      b.m.change(mark, 0, -1, 1, 0, 0);
      int v = b.m.variable();
      int back = b.m.negative(b.m.join(taken, v, 'e'));
      int part = b.m.sum(b.withExtra(b.line), b.m.sum(taken, back));
      int rec = b.m.recursion(mark, v, b.m.map(b.m.map(part, 'd', 0), '+', 1));
      if (more == 0) {
        eq("26 a part of 300 outside", b.m.errors(rec, 9, 9), 300);
      } else {
        b.more();
        eq("19 a part of 201 inside", last(b.m, rec), "0,-1:1 5000,1:1");
        eq("25 a part of 201 inside", b.m.weight(rec, 0, -1, 9, 9), 1);
        fails("26 a part of 301 outside", UNSUPPORTED, () -> b.m.errors(rec, 9, 9));
        fails("26 a part of 301 outside, early", UNSUPPORTED, () -> b.m.errors(rec, 0, 0));
      }
    }
  }

  private static void keptOnes() {
    Bench b = new Bench(300);
    int view = b.withExtra(b.line);
    eq("19 300", b.m.rows(view, 9, 9), 300);
    eq("20 the last", b.m.keyAt(299), 0);
    eq("21 the last", b.m.valueAt(299), 299);
    eq("22 the last", b.m.weightAt(299), 1);
    eq("23 the last", b.m.timeAt(299), 99);
    eq("24 300", b.m.differences(view), 300);
    eq("23 the last difference", b.m.timeAt(299), 0);
    fails("20 behind the last", BOUNDS, () -> b.m.keyAt(300));
    b.more();
    fails("19 301", UNSUPPORTED, () -> b.m.rows(view, 9, 9));
    eq("21 kept still", b.m.valueAt(299), 299);
    eq("32 kept still", b.m.meanWeight(), 1.0);
    eq("30 300 twice", b.m.found(), 600L);
    eq("27 kept", why(b.m, b.line, 0, 1, 9, 9), "0");
    fails("27 301", UNSUPPORTED, () -> b.m.explain(view, 0, 299, 9, 9));
    eq("28 kept still", b.m.explained(0), 0);
    eq("12 views still", b.m.views(), 7);
    eq("18 changes still", b.m.changes(), 11);
  }

  /** Rows at the time asked for do not count, differences at all times do. */
  private static void manyAtOneTime() {
    Bench b = new Bench(150);
    int back = b.m.input();
    b.m.change(back, 0, 0, -1, 5, 5);
    int taken = b.m.join(b.line, back, 'e');
    int view = b.m.sum(b.line, taken);
    eq("24 150 rows told and taken back", b.m.differences(view), 300);
    eq("19 none at last", b.m.rows(view, 9, 9), 0);
    eq("19 150 at first", b.m.rows(view, 5, 4), 150);
    b.m.change(b.extra, 1, 1, 1, 0, 0);
    b.m.change(b.extra, 1, 1, -1, 1, 0);
    int more = b.withExtra(view);
    fails("24 302 differences of no row", UNSUPPORTED, () -> b.m.differences(more));
    fails("19 302 differences of no row", UNSUPPORTED, () -> b.m.rows(more, 9, 9));
    b.m.close(5, 5);
    b.m.forget(5, 5);
    eq("24 none when it is forgotten", b.m.differences(more), 0);
    eq("19 none when it is forgotten", b.m.rows(more, 5, 5), 0);
  }
}
