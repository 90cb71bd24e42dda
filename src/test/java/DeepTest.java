/** Plans that nest many recursions, joins of many pairs, and what a long run makes. */
public final class DeepTest extends Checks {
  public static void main(String[] args) {
    nestedClosures();
    nestedFlips();
    pairsThatCancel();
    tooManyPairs();
    longRun();
    end("deep plans are as due");
  }

  /* A closure of a closure is the same: 16 of them, one inside of another. */
  private static void nestedClosures() {
    DifferenceMill m = new DifferenceMill();
    int edges = m.input();
    int v = m.variable();
    int inner = m.recursion(v, v, m.join(m.map(v, 's', 0), edges, 'l'));
    while (m.views() < 19) {
      inner = m.recursion(v, v, inner);
    }
    int all = m.recursion(edges, v, inner);
    for (int i = 0; i < 16; i++) {
      m.change(edges, i, i + 1, 1, i % 4, i / 4);
    }
    eq("closure of closures", m.rows(all, 9, 9), 136);
    eq("early closure", m.rows(all, 3, 0), 10);
    eq("by one edge", m.explain(all, 15, 16, 9, 9), 1);
    eq("by two edges", m.explain(all, 4, 6, 9, 9), 2);
    eq("sound", m.isSound(), true);
  }

  private static void nestedFlips() {
    DifferenceMill m = new DifferenceMill();
    int in = m.input();
    int v = m.variable();
    int inner = m.recursion(v, v, m.negative(v));
    while (m.views() < 18) {
      inner = m.recursion(v, v, m.negative(inner));
    }
    int last = m.recursion(in, v, m.negative(inner));
    for (int i = 0; i < 16; i++) {
      m.change(in, i, i, 1, i % 4, i / 4);
    }
    eq("even rounds leave the base", m.rows(last, 9, 9), 16);
  }

  /* Values wrap: each sum is met by two pairs, whose weights are together 2 to the 32nd, so 0. */
  private static void pairsThatCancel() {
    DifferenceMill m = new DifferenceMill();
    int one = m.input();
    int other = m.input();
    for (int i = 0; i < 8; i++) {
      m.change(one, 0, i, 1 << 15, i, 0);
      m.change(other, 0, 64 * i, 1 << 16, 0, i);
    }
    for (int i = 3; i < 6; i++) {
      one = m.sum(one, m.map(one, '+', 1 << i));
      other = m.sum(other, m.map(other, '+', 64 << i));
    }
    eq("64 rows", m.rows(one, 9, 9), 64);
    one = m.sum(one, m.map(one, '+', Integer.MIN_VALUE));
    other = m.sum(other, m.map(other, '+', Integer.MIN_VALUE));
    eq("128 rows", m.rows(other, 9, 9), 128);
    int pairs = m.join(one, other, 'p');
    eq("all cancel", m.differences(pairs), 0);
    eq("pairs of it", m.rows(m.join(pairs, one, 'l'), 9, 9), 0);
  }

  private static void tooManyPairs() {
    DifferenceMill m = new DifferenceMill();
    int one = m.input();
    for (int i = 0; i < 16; i++) {
      m.change(one, 0, i, 1, i % 10, 0);
    }
    int few = m.join(one, m.filter(one, '=', 5), 'l');
    for (int i = 4; i < 8; i++) {
      one = m.sum(one, m.map(one, '+', 1 << i));
    }
    eq("256 rows", m.rows(one, 9, 9), 256);
    int many = m.join(one, one, 'l');
    for (int i = 0; i < 3; i++) {
      try {
        eq("65536 rows", m.rows(many, 9, 9), "an exception");
      } catch (UnsupportedOperationException e) {
        eq("16 rows after it", m.rows(few, 9, 9), 16);
      }
      m.close(0, 0);
      m.forget(0, 0);
    }
  }

  /* The whole of a run may make 7.3 million fields and elements: here, 8 bytes at most for each. */
  private static void longRun() {
    com.sun.management.ThreadMXBean bean =
        (com.sun.management.ThreadMXBean) java.lang.management.ManagementFactory.getThreadMXBean();
    long before = bean.getCurrentThreadAllocatedBytes();
    DifferenceMill m = new DifferenceMill();
    long made = bean.getCurrentThreadAllocatedBytes() - before;
    eq("a new mill is small: " + made, made < 400000, true);
    int edges = m.input();
    int v = m.variable();
    int all = m.recursion(edges, v, m.join(m.map(v, 's', 0), edges, 'l'));
    int count = m.group(all, 'c', 0);
    int best = m.group(all, 't', 3);
    for (int i = 0; i < 16; i++) {
      m.change(edges, i, i + 1, 1, i % 4, i / 4);
    }
    for (int i = 0; i < 160; i++) {
      m.differences(best);
      m.explain(all, 2, 4, 9, 9);
      m.rows(count, i % 10, 9);
    }
    made = bean.getCurrentThreadAllocatedBytes() - before;
    eq("a long run makes little: " + made, made < 2000000, true);
  }
}
