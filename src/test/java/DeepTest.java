/** Plans that nest many recursions, joins of many pairs, and what a long run makes. */
public final class DeepTest extends Checks {
  public static void main(String[] args) {
    nestedClosures();
    nestedFlips();
    pairsThatCancel();
    pairsThatMostlyCancel();
    pairsOfNoWeight();
    tooManyPairs();
    countingRecursions();
    lateChangesInside();
    longRun();
    end("deep plans are as due");
  }

  /* A closure of a closure is the same: 16 of them, one inside of another. */
  private static void nestedClosures() {
    DifferenceMill m = new DifferenceMill();
    int edges = m.input();
    int v = m.variable();
    int inner = m.recursion(v, v, m.join(m.map(v, 's', 0), edges, 'l'));
    while (m.views() < 19) {
      inner = m.recursion(v, v, inner);
    }
    int all = m.recursion(edges, v, inner);
    for (int i = 0; i < 16; i++) {
      m.change(edges, i, i + 1, 1, i % 4, i / 4);
    }
    eq("closure of closures", m.rows(all, 9, 9), 136);
    eq("early closure", m.rows(all, 3, 0), 10);
    eq("by one edge", m.explain(all, 15, 16, 9, 9), 1);
    eq("by two edges", m.explain(all, 4, 6, 9, 9), 2);
    eq("sound", m.isSound(), true);
  }

  private static void nestedFlips() {
    DifferenceMill m = new DifferenceMill();
    int in = m.input();
    int v = m.variable();
    int inner = m.recursion(v, v, m.negative(v));
    while (m.views() < 18) {
      inner = m.recursion(v, v, m.negative(inner));
    }
    int last = m.recursion(in, v, m.negative(inner));
    for (int i = 0; i < 16; i++) {
      m.change(in, i, i, 1, i % 4, i / 4);
    }
    eq("even rounds leave the base", m.rows(last, 9, 9), 16);
  }

  /* The inner recursion goes up by 30, one around it by 30 times that, and the outer one so again. */
  private static void countingRecursions() {
    DifferenceMill m = new DifferenceMill();
    int in = m.input();
    m.change(in, 0, 7, 1, 2, 2);
    int v = m.variable();
    int all = m.map(v, '+', 1);
    for (int level = 1, step = 30; level <= 3; level++, step *= 30) {
      int last = m.recursion(in, v, all);
      int count = level == 1 ? 31 : 2;
      eq("rows of level " + level, m.rows(last, 9, 9), count);
      eq("first row of level " + level, m.valueAt(0), 7);
      eq("last row of level " + level, m.valueAt(count - 1), 7 + step);
      eq("early rows of level " + level, m.rows(last, 2, 1), 0);
      all = m.group(m.recursion(v, v, all), 'g', 0);
    }
  }

  /* A change of what the inner recursion steps by, where the outer one has the same rows as before. */
  private static void lateChangesInside() {
    DifferenceMill m = new DifferenceMill();
    int seeds = m.input();
    int edges = m.input();
    int v = m.variable();
    int w = m.variable();
    int inner = m.recursion(v, w, m.join(m.map(w, 's', 0), edges, 'l'));
    int outer = m.recursion(seeds, v, inner);
    m.change(seeds, 0, 1, 1, 0, 0);
    eq("no steps", m.rows(outer, 9, 9), 1);
    m.change(edges, 1, 2, 1, 3, 3);
    eq("a step", m.rows(outer, 9, 9), 2);
    m.change(edges, 2, 3, 1, 0, 5);
    eq("two steps", m.rows(outer, 9, 9), 3);
    eq("not yet", m.rows(outer, 2, 9), 1);
    m.change(edges, 1, 2, -1, 5, 0);
    eq("a step taken back", m.rows(outer, 9, 9), 1);
    eq("not yet taken back", m.rows(outer, 4, 9), 3);
    eq("by two changes", m.explain(outer, 0, 2, 9, 9), 2);
    eq("which", m.explained(0) * 10 + m.explained(1), 1);
    eq("sound", m.isSound(), true);
    m.close(9, 9);
    m.forget(5, 5);
    eq("forgotten", m.rows(outer, 9, 9), 1);
  }

  /* Values wrap: each sum is met by two pairs, whose weights are together 2 to the 32nd, so 0. */
  private static void pairsThatCancel() {
    DifferenceMill m = new DifferenceMill();
    int one = m.input();
    int other = m.input();
    for (int i = 0; i < 8; i++) {
      m.change(one, 0, i, 1 << 15, i, 0);
      m.change(other, 0, 64 * i, 1 << 16, 0, i);
    }
    for (int i = 3; i < 6; i++) {
      one = m.sum(one, m.map(one, '+', 1 << i));
      other = m.sum(other, m.map(other, '+', 64 << i));
    }
    eq("64 rows", m.rows(one, 9, 9), 64);
    one = m.sum(one, m.map(one, '+', Integer.MIN_VALUE));
    other = m.sum(other, m.map(other, '+', Integer.MIN_VALUE));
    eq("128 rows", m.rows(other, 9, 9), 128);
    int pairs = m.join(one, other, 'p');
    eq("all cancel", m.differences(pairs), 0);
    eq("pairs of it", m.rows(m.join(pairs, one, 'l'), 9, 9), 0);
  }

  /* Of 32,768 sums that are 0 and 256 that are not, just these are left. */
  private static void pairsThatMostlyCancel() {
    DifferenceMill m = new DifferenceMill();
    int v = m.variable();
    int one = wrappedLine(m, v, 1, 1 << 15);
    int other = wrappedLine(m, v, 128, 1 << 16);
    int more = m.input();
    int pairs = m.join(one, m.sum(other, more), 'p');
    eq("256 rows", m.differences(one) + m.differences(other), 512);
    eq("all cancel", m.differences(pairs), 0);
    m.change(more, 0, 1 << 20, 1, 0, 9);
    eq("those of one row", m.differences(pairs), 256);
    int right = 0;
    for (int i = 0; i < 128; i++) {
      int value = (1 << 20) + i;
      right += m.valueAt(i) == Integer.MIN_VALUE + value && m.valueAt(128 + i) == value ? 1 : 0;
    }
    eq("their values", right, 128);
    eq("their mean weight", m.meanWeight(), (double) (1 << 15));
  }

  /* 128 rows from 0 on, as far apart as the step, and the same ones with the least value added. */
  private static int wrappedLine(DifferenceMill m, int v, int step, int weight) {
    int start = m.input();
    for (int i = 0; i < 128; i += 31) {
      m.change(start, 0, i * step, 1, 0, 0);
    }
    int line = m.recursion(start, v, m.filter(m.map(v, '+', step), '<', 128 * step));
    int heavy = m.input();
    m.change(heavy, 0, 0, weight, 0, 0);
    line = m.join(line, heavy, 'e');
    return m.sum(line, m.map(line, '+', Integer.MIN_VALUE));
  }

  /* Weights of 65536 times 65536 wrap to 0: of 90000 such pairs none is left, but those of one row. */
  private static void pairsOfNoWeight() {
    DifferenceMill m = new DifferenceMill();
    int in = m.input();
    int v = m.variable();
    for (int i = 0; i < 10; i++) {
      m.change(in, 0, 30 * i, 65536, 0, 0);
    }
    int line = m.recursion(in, v, m.filter(m.map(v, '+', 1), '<', 300));
    int heavy = m.join(line, m.map(m.filter(in, '=', 0), '+', 0), 'e');
    eq("300 heavy rows", m.differences(heavy), 300);
    eq("their weight", m.weightAt(0), 65536);
    int pairs = m.join(heavy, heavy, 'l');
    eq("pairs of no weight", m.differences(pairs), 0);
    m.change(in, 0, 9, 1, 5, 5);
    eq("pairs of one row with a weight", m.differences(m.join(heavy, m.filter(in, '=', 9), 'l')), 300);
    eq("its last row", m.keyAt(299) * 100 + m.valueAt(299), 29909);
    eq("its weight", m.weightAt(299), 65536);
  }

  private static void tooManyPairs() {
    DifferenceMill m = new DifferenceMill();
    int one = m.input();
    for (int i = 0; i < 16; i++) {
      m.change(one, 0, i, 1, i % 10, 0);
    }
    int few = m.join(one, m.filter(one, '=', 5), 'l');
    for (int i = 4; i < 8; i++) {
      one = m.sum(one, m.map(one, '+', 1 << i));
    }
    eq("256 rows", m.rows(one, 9, 9), 256);
    int many = m.join(one, one, 'l');
    for (int i = 0; i < 3; i++) {
      try {
        eq("65536 rows", m.rows(many, 9, 9), "an exception");
      } catch (UnsupportedOperationException e) {
        eq("16 rows after it", m.rows(few, 9, 9), 16);
      }
      m.close(0, 0);
      m.forget(0, 0);
    }
  }

  /* The whole of a run may make 7.3 million fields and elements: here, 8 bytes at most for each. */
  private static void longRun() {
    com.sun.management.ThreadMXBean bean =
        (com.sun.management.ThreadMXBean) java.lang.management.ManagementFactory.getThreadMXBean();
    long before = bean.getCurrentThreadAllocatedBytes();
    DifferenceMill m = new DifferenceMill();
    long made = bean.getCurrentThreadAllocatedBytes() - before;
    eq("a new mill is small: " + made, made < 400000, true);
    int edges = m.input();
    int v = m.variable();
    int all = m.recursion(edges, v, m.join(m.map(v, 's', 0), edges, 'l'));
    int count = m.group(all, 'c', 0);
    int best = m.group(all, 't', 3);
    for (int i = 0; i < 16; i++) {
      m.change(edges, i, i + 1, 1, i % 4, i / 4);
    }
    for (int i = 0; i < 160; i++) {
      m.differences(best);
      m.explain(all, 2, 4, 9, 9);
      m.rows(count, i % 10, 9);
    }
    made = bean.getCurrentThreadAllocatedBytes() - before;
    eq("a long run makes little: " + made, made < 2000000, true);
  }
}
