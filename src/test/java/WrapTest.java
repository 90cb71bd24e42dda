/** Where keys, values and weights wrap as ints, and where a sum does not. */
public final class WrapTest extends Checks {
  private static final int HALF = 1 << 30;

  public static void main(String[] args) {
    changesThatAddUp();
    changesThatBecomeOne();
    sumsOfDifferences();
    mapsOfValues();
    mapsOfWeights();
    divisions();
    remainders();
    sumsAndNegatives();
    joinsOfValues();
    joinsOfWeights();
    sumsOfGroups();
    countsOfGroups();
    medians();
    groupsOfWrappedWeights();
    distincts();
    recursions();
    explaining();
    errors();
    means();
    end("what wraps wraps");
  }

  private static void changesThatAddUp() {
    DifferenceMill m = mill(1, 1, MAX, 0, 0, 1, 1, 1, 0, 0, 2, 2, MIN, 0, 0, 2, 2, -1, 0, 0,
        3, 3, MIN, 0, 0, 3, 3, MIN, 0, 0, 4, 4, HALF, 0, 0, 4, 4, HALF, 0, 0, 4, 4, HALF, 0, 0,
        4, 4, HALF, 0, 0, 5, 5, MAX, 0, 0, 5, 5, MAX, 0, 0);
    eq("14 as differences", diffs(m, 0), "1,1:" + MIN + "@0 2,2:" + MAX + "@0 5,5:-2@0");
    eq("14 as rows", last(m, 0), "1,1:" + MIN + " 2,2:" + MAX + " 5,5:-2");
    eq("25 as a weight", m.weight(0, 5, 5, 0, 0), -2);
    eq("25 as no weight", m.weight(0, 3, 3, 0, 0), 0);
    DifferenceMill far = mill(MAX, MIN, 1, 0, 0, MIN, MAX, 1, 0, 0);
    eq("14 keys and values", last(far, 0), MIN + "," + MAX + ":1 " + MAX + "," + MIN + ":1");
  }

  private static void changesThatBecomeOne() {
    DifferenceMill m = mill(1, 1, MAX, 0, 0, 1, 1, MAX, 0, 1, 2, 2, MIN, 0, 1, 2, 2, MIN, 1, 0,
        3, 3, HALF, 0, 0, 3, 3, HALF, 1, 0);
    m.close(1, 1);
    eq("17 none of 2 to the 32nd", m.forget(1, 1), 2);
    eq("17 wrapped", diffs(m, 0), "1,1:-2@11 3,3:" + MIN + "@11");
  }

  private static void sumsOfDifferences() {
    DifferenceMill m = mill(1, 1, MAX, 0, 0, 1, 1, MAX, 0, 1, 1, 1, 2, 1, 0);
    eq("19 first", last(mill(1, 1, MAX, 0, 0), 0), "1,1:" + MAX);
    eq("19 two", at(m, 0, 0, 1), "1,1:-2");
    eq("19 others", at(m, 0, 1, 0), "1,1:" + (MIN + 1));
    eq("19 none", at(m, 0, 1, 1), "");
    eq("25 two", m.weight(0, 1, 1, 0, 9), -2);
    int group = m.group(0, 'c', 0);
    eq("8 by times", diffs(m, group), "1," + MAX + ":1@0 1," + MAX + ":-1@1 1," + MAX + ":-1@10 1,"
        + MAX + ":1@11");
    int ones = m.distinct(0);
    eq("9 by times", diffs(m, ones), "1,1:1@0 1,1:-1@1 1,1:-1@10 1,1:1@11");
  }

  private static void mapsOfValues() {
    DifferenceMill m = mill(MIN, MAX, 1, 0, 0, MAX, MIN, 2, 0, 0, 0, -1, 3, 0, 0);
    eq("3 s", last(m, m.map(0, 's', 0)), MIN + "," + MAX + ":2 -1,0:3 " + MAX + "," + MIN + ":1");
    eq("3 + 1", last(m, m.map(0, '+', 1)), MIN + "," + MIN + ":1 0,0:3 " + MAX + "," + (MIN + 1) + ":2");
    eq("3 + -1", last(m, m.map(0, '+', -1)), MIN + "," + (MAX - 1) + ":1 0,-2:3 " + MAX + "," + MAX + ":2");
    eq("3 + greatest", last(m, m.map(0, '+', MAX)), MIN + ",-2:1 0," + (MAX - 1) + ":3 " + MAX + ",-1:2");
    eq("3 + least", last(m, m.map(0, '+', MIN)), MIN + ",-1:1 0," + MAX + ":3 " + MAX + ",0:2");
    eq("3 z", last(m, m.map(0, 'z', 0)), "0," + MIN + ":2 0,-1:3 0," + MAX + ":1");
    DifferenceMill meet = mill(7, 1, 4, 0, 0, 7, 1 + HALF, 5, 0, 0);
    int up = meet.map(meet.map(0, '+', HALF), '+', HALF);
    eq("3 + twice", last(meet, meet.sum(up, meet.map(meet.map(0, '+', MIN), '+', MIN))),
        "7," + (MIN + 1) + ":4 7," + (MIN + HALF + 1) + ":5 7,1:4 7," + (HALF + 1) + ":5");
  }

  /** Rows that become the same: their weights wrap when they are added. */
  private static void mapsOfWeights() {
    DifferenceMill m = mill(1, 7, MAX, 0, 0, 2, 7, 1, 0, 0, 3, 8, MIN, 0, 0, 4, 8, MIN, 0, 0);
    eq("3 z", last(m, m.map(0, 'z', 0)), "0,7:" + MIN);
    eq("3 r", last(m, m.map(0, 'r', 7)), "0,7:" + MIN);
    DifferenceMill d = mill(2, 6, MAX, 0, 0, 2, 7, MAX, 0, 0, 3, 9, MIN, 0, 0, 3, 10, MIN, 0, 0);
    eq("3 d", last(d, d.map(0, 'd', 0)), "2,3:-2");
    DifferenceMill s = mill(1, 2, MAX, 0, 0, 1, 2, MAX, 0, 1);
    eq("3 s", last(s, s.map(0, 's', 0)), "2,1:-2");
    eq("3 +", last(s, s.map(0, '+', 1)), "1,3:-2");
    eq("4 =", last(s, s.filter(0, '=', 2)), "1,2:-2");
  }

  private static void divisions() {
    DifferenceMill m = mill(-1, MIN, 1, 0, 0, -1, MAX, 1, 0, 0, 1, MIN, 1, 0, 0, MIN, MIN, 1, 0, 0,
        MIN, MAX, 1, 0, 0, MAX, MIN, 1, 0, 0, 2, -7, 1, 0, 0, -2, 7, 1, 0, 0, -3, -7, 1, 0, 0,
        9, -8, 1, 0, 0, 0, 5, 1, 0, 0, 5, 0, 1, 0, 0);
    eq("3 d rounded towards 0, wrapped", last(m, m.map(0, 'd', 0)), MIN + ",0:1 " + MIN + ",1:1 -3,2:1 "
        + "-2,-3:1 -1," + MIN + ":1 -1," + (MIN + 1) + ":1 1," + MIN + ":1 2,-3:1 5,0:1 9,0:1 "
        + MAX + ",-1:1");
    eq("26 just the key 0", m.errors(1, 0, 0), 1);
  }

  private static void remainders() {
    for (int n = 1; n <= 9; n++) {
      for (int value : new int[] {MIN, MIN + 1, -9, -1, 0, 1, 9, MAX - 1, MAX}) {
        DifferenceMill m = mill(MAX, value, 1, 0, 0);
        long key = ((long) value + 9L * HALF * 4L * n) % n;
        eq("3 r " + n + " of " + value, last(m, m.map(0, 'r', n)), key + "," + value + ":1");
      }
    }
  }

  private static void sumsAndNegatives() {
    DifferenceMill m = mill(1, 1, MAX, 0, 0, 2, 2, MIN, 0, 0, 3, 3, HALF, 0, 0);
    int other = m.input();
    tell(m, other, 1, 1, MAX, 0, 0, 2, 2, MIN, 0, 0, 3, 3, HALF, 1, 0);
    eq("5 sum", diffs(m, m.sum(0, other)), "1,1:-2@0 3,3:" + HALF + "@0 3,3:" + HALF + "@10");
    eq("5 rows of it", last(m, 2), "1,1:-2 3,3:" + MIN);
    eq("6 negative", last(m, m.negative(0)), "1,1:" + -MAX + " 2,2:" + MIN + " 3,3:" + -HALF);
    eq("6 negative of it", last(m, m.negative(3)), "1,1:" + MAX + " 2,2:" + MIN + " 3,3:" + HALF);
    eq("6 of a wrapped sum", last(m, m.negative(2)), "1,1:2 3,3:" + MIN);
    eq("5 with the negative", last(m, m.sum(0, 3)), "");
  }

  private static void joinsOfValues() {
    DifferenceMill m = mill(4, MAX, 1, 0, 0, 4, 1, 1, 0, 0);
    int other = m.input();
    tell(m, other, 4, MAX, 1, 0, 0, 4, MIN, 1, 0, 0);
    eq("7 p", last(m, m.join(0, other, 'p')), "4," + MIN + ":1 4," + (MIN + 1) + ":1 4,-2:1 4,-1:1");
    eq("7 l", last(m, m.join(0, other, 'l')), "1," + MIN + ":1 1," + MAX + ":1 " + MAX + "," + MIN + ":1 "
        + MAX + "," + MAX + ":1");
    eq("7 e", last(m, m.join(other, 0, 'e')), "4," + MIN + ":2 4," + MAX + ":2");
    DifferenceMill same = mill(4, HALF, 1, 0, 0, 4, HALF + MIN, 2, 0, 0);
    eq("7 p that meet", last(same, same.join(0, 0, 'p')), "4," + MIN + ":5 4,0:4");
  }

  private static void joinsOfWeights() {
    int[][] products = {{65536, 65536, 0}, {65536, 32768, MIN}, {MIN, -1, MIN}, {MIN, 2, 0},
        {MAX, MAX, 1}, {MAX, 2, -2}, {MIN, MAX, MIN}, {-65536, 32768, MIN}, {65537, 65537, 131073}};
    for (int[] p : products) {
      DifferenceMill m = mill(1, 2, p[0], 0, 0);
      m.input();
      m.change(1, 1, 3, p[1], 0, 0);
      eq("7 product", last(m, m.join(0, 1, 'l')), p[2] == 0 ? "" : "2,3:" + p[2]);
      eq("7 product's differences", m.differences(2), p[2] == 0 ? 0 : 1);
      eq("7 product the other way", m.weight(m.join(1, 0, 'l'), 3, 2, 0, 0), p[2]);
    }
    DifferenceMill added = mill(1, 5, MAX, 0, 0, 1, 6, 1, 0, 0);
    int one = added.input();
    tell(added, one, 1, 1, 1, 0, 0, 1, 0, 1, 0, 0);
    eq("7 p adds weights", last(added, added.join(0, one, 'p')), "1,5:" + MAX + " 1,6:" + MIN + " 1,7:1");
  }

  private static void sumsOfGroups() {
    DifferenceMill m = mill(1, MAX, 1, 0, 0, 1, 1, 1, 0, 0, 2, MIN, 2, 0, 0, 3, 65536, 65536, 0, 0,
        4, 3, MAX, 0, 0, 5, -1, MAX, 0, 0, 5, -2, 1, 0, 0, 6, MAX, MAX, 0, 0, 7, 65536, 32768, 0, 0);
    eq("8 s", last(m, m.group(0, 's', 0)), "1," + MIN + ":1 2,0:1 3,0:1 4," + 3 * MAX + ":1 5,"
        + (-MAX - 2) + ":1 6,1:1 7," + MIN + ":1");
  }

  private static void countsOfGroups() {
    DifferenceMill m = mill(1, 1, MAX, 0, 0, 2, 1, MAX, 0, 0, 2, 2, 1, 0, 0, 3, 1, MAX - 1, 0, 0,
        3, 2, 1, 0, 0, 4, 1, MAX, 0, 0, 4, 2, MAX, 0, 0, 4, 3, 2, 0, 0, 5, 1, MAX - 1, 0, 0,
        6, 1, MAX, 0, 0, 6, 2, MIN, 0, 0);
    eq("8 c at most", last(m, m.group(0, 'c', 0)), "1," + MAX + ":1 2," + MAX + ":1 3," + MAX + ":1 4,"
        + MAX + ":1 5," + (MAX - 1) + ":1 6," + MAX + ":1");
    DifferenceMill less = mill(1, 1, MAX, 0, 0, 1, 2, 5, 0, 0, 1, 1, -6, 1, 0);
    int count = less.group(0, 'c', 0);
    eq("8 c at most, by times", diffs(less, count), "1," + MAX + ":1@0 1," + (MAX - 1) + ":1@10 1,"
        + MAX + ":-1@10");
  }

  /** Sums of weights that would be another median if they wrapped. */
  private static void medians() {
    DifferenceMill m = mill(1, 10, MAX, 0, 0, 1, 20, MAX, 0, 0, 1, 30, 3, 0, 0,
        2, 10, 1, 0, 0, 2, 20, MAX, 0, 0, 2, 30, MAX, 0, 0,
        3, 10, MAX, 0, 0, 3, 20, 1, 0, 0, 3, 30, MAX, 0, 0,
        4, 10, MAX, 0, 0, 4, 20, MAX, 0, 0);
    int view = m.group(0, 'm', 0);
    eq("8 m does not wrap", last(m, view), "1,20:1 2,20:1 3,20:1 4,10:1");
    DifferenceMill edge = mill(1, 10, HALF, 0, 0, 1, 20, HALF, 0, 0, 1, 20, 1, 1, 0, 1, 10, 1, 0, 1);
    int median = edge.group(0, 'm', 0);
    eq("8 m half and half", at(edge, median, 0, 0), "1,10:1");
    eq("8 m more of the second", at(edge, median, 1, 0), "1,20:1");
    eq("8 m more of the first", at(edge, median, 0, 1), "1,10:1");
    eq("8 m one more of each", at(edge, median, 1, 1), "1,10:1");
    DifferenceMill many = mill();
    for (int i = 1; i <= 15; i++) {
      many.change(0, 1, i, MAX, 0, 0);
    }
    int middle = many.group(0, 'm', 0);
    eq("8 m of 15 times the most", last(many, middle), "1,8:1");
    many.change(0, 1, 0, MAX, 0, 0);
    eq("8 m of 16 times the most", last(many, middle), "1,7:1");
  }

  /** A weight that wraps is less than 0, or more, and so is looked at or not. */
  private static void groupsOfWrappedWeights() {
    DifferenceMill m = mill(1, 1, MAX, 0, 0, 1, 2, 1, 0, 0, 1, 1, 1, 1, 0, 2, 1, MIN, 0, 0,
        2, 1, -1, 1, 0);
    for (char kind : new char[] {'l', 't'}) {
      int view = m.group(0, kind, 9);
      eq("8 before " + kind, at(m, view, 0, 9), kind == 'l' ? "1,1:1" : "1,1:" + MAX + " 1,2:1");
      eq("8 behind " + kind, at(m, view, 1, 0), kind == 'l' ? "1,2:1 2,1:1" : "1,2:1 2,1:" + MAX);
    }
    int taken = m.sum(m.group(0, 't', 1), m.group(0, 't', 2));
    eq("8 t with weights", at(m, taken, 0, 0), "1,1:" + MAX + " 1,2:2");
    eq("8 t added", at(m, taken, 1, 0), "1,2:2 2,1:-2");
  }

  private static void distincts() {
    DifferenceMill m = mill(1, 1, MAX, 0, 0, 1, 1, 1, 0, 1, 2, 2, MIN, 0, 0, 2, 2, MIN, 0, 1,
        3, 3, MIN, 0, 0, 3, 3, -1, 0, 1);
    int ones = m.distinct(0);
    eq("9 first", at(m, ones, 9, 0), "1,1:1");
    eq("9 wrapped", at(m, ones, 9, 1), "3,3:1");
    eq("9 differences", diffs(m, ones), "1,1:1@0 1,1:-1@1 3,3:1@1");
  }

  private static void recursions() {
    DifferenceMill m = mill(0, MAX - 1, 1, 0, 0);
    int v = m.variable();
    int rec = m.recursion(0, v, m.map(v, '+', 1));
    eq("11 values", m.rows(rec, 9, 9), 31);
    eq("11 least value", m.valueAt(0), MIN);
    eq("11 the last round", m.weight(rec, 0, MIN + 28, 0, 0), 1);
    DifferenceMill w = mill(0, 0, MAX, 0, 0);
    int x = w.variable();
    int one = w.input();
    tell(w, one, 0, 0, 1, 0, 0);
    eq("11 weights of both", last(w, w.recursion(0, x, one)), "");
    eq("11 weights, by turns none and one", last(w, w.recursion(0, x, x)), "0,0:1");
    eq("11 weights, none in the last round", last(w, w.recursion(0, x, w.distinct(0))), "");
    eq("11 weights of the base", last(w, w.recursion(w.negative(0), x, x)), "");
    DifferenceMill far = mill(0, 0, MIN, 0, 0);
    int y = far.input();
    int z = far.variable();
    tell(far, y, 0, 0, -1, 0, 0);
    eq("11 a base of less than 0", last(far, far.recursion(0, z, y)), "0,0:1");
  }

  private static void explaining() {
    DifferenceMill m = mill(1, 1, MIN, 0, 0, 1, 1, -1, 0, 0, 2, 2, HALF, 0, 0, 2, 2, HALF, 0, 0);
    eq("27 both wrap to more than 0", why(m, 0, 1, 1, 0, 0), "0 1");
    eq("25 all wrap to less", m.weight(0, 2, 2, 0, 0), MIN);
    eq("27 one is more than 0", why(m, 0, 2, 2, 0, 0), "2");
    int less = m.negative(0);
    eq("27 the negative", why(m, less, 1, 1, 0, 0), "1");
    eq("27 the negative of the least", why(m, less, 2, 2, 0, 0), NO_ELEMENT.toString());
  }

  private static void errors() {
    DifferenceMill m = mill(0, 1, MAX, 0, 0, 0, 2, 1, 0, 0, 0, 3, MIN, 1, 0);
    int d = m.map(0, 'd', 0);
    eq("26 of one map", m.errors(d, 0, 9), MIN);
    eq("26 of one map, none", m.errors(d, 1, 0), 0);
    eq("26 of two maps", m.errors(m.sum(d, m.map(0, 'd', 0)), 0, 0), 0);
  }

  private static void means() {
    DifferenceMill m = mill(1, 1, MAX, 0, 0, 2, 2, MAX, 0, 0, 3, 3, MAX, 0, 0);
    m.rows(0, 0, 0);
    eq("32 greatest ones", m.meanWeight(), (double) MAX);
    int less = m.negative(0);
    m.rows(m.map(less, '+', 0), 0, 0);
    eq("32 least ones", m.meanWeight(), (double) -MAX);
    DifferenceMill third = mill(1, 1, 1, 0, 0, 2, 2, 1, 0, 0, 3, 3, -1, 0, 0);
    third.differences(0);
    eq("32 a third", third.meanWeight(), 1.0 / 3.0);
  }
}
