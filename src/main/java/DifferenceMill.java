import java.util.Arrays;
import java.util.NoSuchElementException;

/** A mill of views that change by changes, at times that are pairs and partly ordered. */
public final class DifferenceMill {
  private static final int MOST_VIEWS = 20;
  private static final int MOST_CHANGES = 16;
  private static final int MOST_DIFFERENCES = 300;
  private static final int ROUNDS = 30;
  private static final int SIDE = 10;
  private static final int TIMES = 100;
  private static final int LAST_TIME = 99;

  /* Each level above the first is a recursion that is under way inside of the one below it. */
  private static final int LEVELS = 21;

  private static final int INPUT = 0;
  private static final int MAP = 1;
  private static final int FILTER = 2;
  private static final int SUM = 3;
  private static final int NEGATIVE = 4;
  private static final int JOIN = 5;
  private static final int GROUP = 6;
  private static final int DISTINCT = 7;
  private static final int VARIABLE = 8;
  private static final int RECURSION = 9;

  private static final int UNKNOWN = 0;
  private static final int FOUND = 1;
  private static final int TOO_BIG = 2;

  private static final int NO_SET = -1;
  private static final int BIG_SET = -2;

  /* In the place of one time for all changes: each keeps its own. */
  private static final int OWN_TIMES = -1;

  private final Plan plan;
  private final Ledger ledger;
  private final Calendar calendar;
  private final Memo memo;
  private final Finder whole;
  private final Finder trial;
  private final Kept kept;
  private final int[] proof = new int[2];
  private int proofSize;

  public DifferenceMill() {
    Plan ownPlan = new Plan();
    Ledger ownLedger = new Ledger();
    Memo ownMemo = new Memo();
    Tally tally = new Tally();
    Shop shop = new Shop(tally);
    Grouper grouper = new Grouper(tally);
    plan = ownPlan;
    ledger = ownLedger;
    memo = ownMemo;
    calendar = new Calendar();
    whole = new Finder(ownPlan, ownLedger, shop, grouper, ownMemo);
    trial = new Finder(ownPlan, ownLedger, shop, grouper, ownMemo);
    kept = new Kept();
  }

  // ---- views

  public int input() throws IllegalStateException {
    refuseFullPlan();
    return plan.add(INPUT, ' ', 0, -1, -1, -1);
  }

  public int map(int view, char kind, int n)
      throws IndexOutOfBoundsException, IllegalArgumentException, IllegalStateException {
    refuseNoView(view);
    boolean plain = kind == 's' || kind == '+' || kind == 'z' || kind == 'd';
    if (!plain && kind != 'r') {
      throw new IllegalArgumentException("no such kind of map");
    }
    if (kind == 'r' && isNoSmallNumber(n)) {
      throw new IllegalArgumentException("the number is out of range");
    }
    refuseFullPlan();
    return plan.add(MAP, kind, n, view, -1, -1);
  }

  public int filter(int view, char kind, int n)
      throws IndexOutOfBoundsException, IllegalArgumentException, IllegalStateException {
    refuseNoView(view);
    if (kind != '<' && kind != '=' && kind != 'k' && kind != 'o') {
      throw new IllegalArgumentException("no such kind of filter");
    }
    refuseFullPlan();
    return plan.add(FILTER, kind, n, view, -1, -1);
  }

  public int sum(int view, int other) throws IndexOutOfBoundsException, IllegalStateException {
    refuseNoView(view);
    refuseNoView(other);
    refuseFullPlan();
    return plan.add(SUM, ' ', 0, view, other, -1);
  }

  public int negative(int view) throws IndexOutOfBoundsException, IllegalStateException {
    refuseNoView(view);
    refuseFullPlan();
    return plan.add(NEGATIVE, ' ', 0, view, -1, -1);
  }

  public int join(int view, int other, char kind)
      throws IndexOutOfBoundsException, IllegalArgumentException, IllegalStateException {
    refuseNoView(view);
    refuseNoView(other);
    if (kind != 'l' && kind != 'p' && kind != 'e') {
      throw new IllegalArgumentException("no such kind of join");
    }
    refuseFullPlan();
    return plan.add(JOIN, kind, 0, view, other, -1);
  }

  public int group(int view, char kind, int n)
      throws IndexOutOfBoundsException, IllegalArgumentException, IllegalStateException {
    refuseNoView(view);
    boolean plain = kind == 'c' || kind == 's' || kind == 'l' || kind == 'g' || kind == 'm';
    if (!plain && kind != 't') {
      throw new IllegalArgumentException("no such kind of group");
    }
    if (kind == 't' && isNoSmallNumber(n)) {
      throw new IllegalArgumentException("the number is out of range");
    }
    refuseFullPlan();
    return plan.add(GROUP, kind, n, view, -1, -1);
  }

  public int distinct(int view) throws IndexOutOfBoundsException, IllegalStateException {
    refuseNoView(view);
    refuseFullPlan();
    return plan.add(DISTINCT, ' ', 0, view, -1, -1);
  }

  public int variable() throws IllegalStateException {
    refuseFullPlan();
    return plan.add(VARIABLE, ' ', 0, -1, -1, -1);
  }

  public int recursion(int base, int variable, int body)
      throws IndexOutOfBoundsException, IllegalArgumentException, IllegalStateException {
    refuseNoView(base);
    refuseNoView(variable);
    refuseNoView(body);
    if (plan.op[variable] != VARIABLE) {
      throw new IllegalArgumentException("the second view is no variable");
    }
    refuseFullPlan();
    return plan.add(RECURSION, ' ', 0, base, variable, body);
  }

  public int views() {
    return plan.size;
  }

  public int arrangements() {
    return Integer.bitCount(plan.keyed);
  }

  // ---- changes

  public int change(int input, int key, int value, int weight, int a, int b)
      throws IndexOutOfBoundsException, IllegalArgumentException, UnsupportedOperationException,
          IllegalStateException {
    refuseNoView(input);
    if (plan.op[input] != INPUT) {
      throw new IllegalArgumentException("the view is no input");
    }
    if (weight == 0) {
      throw new IllegalArgumentException("the weight is 0");
    }
    int time = timeOf(a, b);
    if (calendar.closed[time]) {
      throw new UnsupportedOperationException("the time is closed");
    }
    if (ledger.size >= MOST_CHANGES) {
      throw new IllegalStateException("there are 16 changes");
    }
    ledger.add(input, rowOf(key, value), weight, time);
    whole.drop(1 << input);
    return ledger.size;
  }

  public int close(int a, int b) throws IllegalArgumentException {
    return calendar.closeUpTo(timeOf(a, b));
  }

  public boolean isClosed(int a, int b) throws IllegalArgumentException {
    return calendar.closed[timeOf(a, b)];
  }

  public int forget(int a, int b)
      throws IllegalArgumentException, UnsupportedOperationException, IllegalStateException {
    int time = timeOf(a, b);
    if (!calendar.closed[time]) {
      throw new UnsupportedOperationException("the time is not closed");
    }
    refuseForgotten(time);
    calendar.forgotten = time;
    ledger.foldUpTo(time);
    whole.drop(plan.inputs);
    return ledger.size;
  }

  public int changes() {
    return ledger.size;
  }

  // ---- asking

  public int rows(int view, int a, int b)
      throws IndexOutOfBoundsException, IllegalArgumentException, IllegalStateException,
          UnsupportedOperationException {
    int time = askedTime(view, a, b);
    return kept.keepRows(foundDiffs(view), time);
  }

  public int keyAt(int index) throws IndexOutOfBoundsException {
    refuseNotKept(index);
    return keyOf(kept.row[index]);
  }

  public int valueAt(int index) throws IndexOutOfBoundsException {
    refuseNotKept(index);
    return valueOf(kept.row[index]);
  }

  public int weightAt(int index) throws IndexOutOfBoundsException {
    refuseNotKept(index);
    return kept.weight[index];
  }

  public int timeAt(int index) throws IndexOutOfBoundsException {
    refuseNotKept(index);
    return kept.time[index];
  }

  public int differences(int view)
      throws IndexOutOfBoundsException, UnsupportedOperationException {
    refuseNoView(view);
    return kept.keepAll(foundDiffs(view));
  }

  public int weight(int view, int key, int value, int a, int b)
      throws IndexOutOfBoundsException, IllegalArgumentException, IllegalStateException,
          UnsupportedOperationException {
    int time = askedTime(view, a, b);
    return foundDiffs(view).weightOf(rowOf(key, value), time);
  }

  public int errors(int view, int a, int b)
      throws IndexOutOfBoundsException, IllegalArgumentException, IllegalStateException,
          UnsupportedOperationException {
    int time = askedTime(view, a, b);
    foundDiffs(view);
    int sum = 0;
    for (int v = 0; v <= view; v++) {
      boolean counts = has(plan.made[view], v) && plan.op[v] == MAP && plan.sort[v] == 'd';
      if (counts) {
        sum += foundDiffs(plan.first[v]).weightOfKey(0, time);
      }
    }
    return sum;
  }

  public int explain(int view, int key, int value, int a, int b)
      throws IndexOutOfBoundsException, IllegalArgumentException, IllegalStateException,
          UnsupportedOperationException, NoSuchElementException {
    int time = askedTime(view, a, b);
    foundDiffs(view);
    long row = rowOf(key, value);
    int count = ledger.size;
    int set = tryOut(0, view, row, time);
    for (int i = 0; set == NO_SET && i < count; i++) {
      set = tryOut(1 << i, view, row, time);
    }
    for (int i = 0; set == NO_SET && i < count; i++) {
      for (int j = i + 1; set == NO_SET && j < count; j++) {
        set = tryOut(1 << i | 1 << j, view, row, time);
      }
    }
    if (set == BIG_SET) {
      throw new UnsupportedOperationException("a view has too many differences");
    }
    if (set == NO_SET) {
      throw new NoSuchElementException("no set of at most 2 changes explains the row");
    }
    proofSize = 0;
    for (int i = 0; i < MOST_CHANGES; i++) {
      if (has(set, i) && proofSize < proof.length) {
        proof[proofSize] = i;
        proofSize++;
      }
    }
    return proofSize;
  }

  public int explained(int index) throws IndexOutOfBoundsException {
    if (index < 0 || index >= proofSize) {
      throw new IndexOutOfBoundsException("no such change was kept");
    }
    return proof[index];
  }

  public boolean isFinal(int view, int a, int b)
      throws IndexOutOfBoundsException, IllegalArgumentException {
    refuseNoView(view);
    int time = timeOf(a, b);
    return calendar.closed[time] || (plan.made[view] & plan.inputs) == 0;
  }

  // ---- figures

  public long found() {
    return kept.inAll;
  }

  public float closedShare() {
    return (float) calendar.closedCount / (float) TIMES;
  }

  public double meanWeight() throws ArithmeticException {
    if (kept.size == 0) {
      throw new ArithmeticException("no weights were kept");
    }
    long sum = 0;
    for (int i = 0; i < kept.size; i++) {
      sum += kept.weight[i];
    }
    return (double) sum / (double) kept.size;
  }

  public boolean isSound() {
    int small = 0;
    for (int v = 0; v < plan.size; v++) {
      if (whole.reach(v, 0)) {
        small |= 1 << v;
      }
    }
    boolean sound = agreesAt(LAST_TIME, small);
    for (int i = 0; sound && i < ledger.size; i++) {
      sound = !ledger.isNewTime(i) || agreesAt(ledger.time[i], small);
    }
    return sound;
  }

  // ---- what is refused

  private void refuseFullPlan() {
    if (plan.size >= MOST_VIEWS) {
      throw new IllegalStateException("there are 20 views");
    }
  }

  private void refuseNoView(int view) {
    if (view < 0 || view >= plan.size) {
      throw new IndexOutOfBoundsException("no such view");
    }
  }

  private void refuseForgotten(int time) {
    if (!isUpTo(calendar.forgotten, time)) {
      throw new IllegalStateException("the time is not behind what was forgotten");
    }
  }

  private void refuseNotKept(int index) {
    if (index < 0 || index >= kept.size) {
      throw new IndexOutOfBoundsException("no such row was kept");
    }
  }

  private static int timeOf(int a, int b) {
    if (a < 0 || a >= SIDE || b < 0 || b >= SIDE) {
      throw new IllegalArgumentException("no such time");
    }
    return SIDE * a + b;
  }

  private int askedTime(int view, int a, int b) {
    refuseNoView(view);
    int time = timeOf(a, b);
    refuseForgotten(time);
    return time;
  }

  private Diffs foundDiffs(int view) {
    if (!whole.reach(view, 0)) {
      throw new UnsupportedOperationException("a view has too many differences");
    }
    return whole.now(view);
  }

  // ---- trials

  /* The set of changes, a bit each, if it explains the row. */
  private int tryOut(int set, int view, long row, int time) {
    /* With a change of an input that the view is not made of, it is as good as without it. */
    if ((set & ~ledger.ofInputs(plan.made[view])) != 0) {
      return NO_SET;
    }
    trial.choose(set, OWN_TIMES);
    if (!trial.reach(view, 0)) {
      return BIG_SET;
    }
    return trial.now(view).weightOf(row, time) > 0 ? set : NO_SET;
  }

  /* Whether the sums of the differences are what the sums of the changes alone come to. */
  private boolean agreesAt(int time, int views) {
    trial.choose(ledger.upTo(time), time);
    boolean agrees = true;
    for (int v = 0; agrees && v < plan.size; v++) {
      if (has(views, v)) {
        agrees = trial.reach(v, 0) && whole.now(v).comesTo(trial.now(v), time);
      }
    }
    return agrees;
  }

  // ---- rows and times

  /* A row as one number, such that rows are in order as their numbers are. */
  private static long rowOf(int key, int value) {
    return (long) key << 32 | (long) value + 2147483648L;
  }

  private static int keyOf(long row) {
    return (int) (row >> 32);
  }

  private static int valueOf(long row) {
    return (int) ((row & 4294967295L) - 2147483648L);
  }

  private static boolean isUpTo(int time, int other) {
    return time / SIDE <= other / SIDE && time % SIDE <= other % SIDE;
  }

  private static int jointTime(int time, int other) {
    return SIDE * Math.max(time / SIDE, other / SIDE) + Math.max(time % SIDE, other % SIDE);
  }

  private static boolean isNoSmallNumber(int n) {
    return n < 1 || n > 9;
  }

  private static boolean has(int set, int element) {
    return (set >>> element & 1) != 0;
  }

  /** What the views are, and what they are made of. */
  private static final class Plan {
    final int[] op = new int[MOST_VIEWS];
    final char[] sort = new char[MOST_VIEWS];
    final int[] number = new int[MOST_VIEWS];
    final int[] first = new int[MOST_VIEWS];
    final int[] second = new int[MOST_VIEWS];
    final int[] third = new int[MOST_VIEWS];

    /* All views that a view is made of, itself one of them. */
    final int[] made = new int[MOST_VIEWS];

    /* Those of them that are found with the variables as they are around the view. */
    final int[] near = new int[MOST_VIEWS];

    /* The variables whose rows around the view have a part in it. */
    final int[] free = new int[MOST_VIEWS];

    int size;
    int inputs;
    int keyed;

    /* Recursions that depend on variables around them. */
    int loops;

    int add(int kind, char letter, int n, int a, int b, int c) {
      int at = size;
      int self = 1 << at;
      op[at] = kind;
      sort[at] = letter;
      number[at] = n;
      first[at] = a;
      second[at] = b;
      third[at] = c;
      made[at] = self | ofPart(made, a) | ofPart(made, b) | ofPart(made, c);
      near[at] = self | ofPart(near, a);
      free[at] = ofPart(free, a);
      if (kind == RECURSION) {
        free[at] |= ofPart(free, c) & ~(1 << b);
        loops |= free[at] == 0 ? 0 : self;
      } else {
        near[at] |= ofPart(near, b);
        free[at] |= ofPart(free, b);
      }
      if (kind == VARIABLE) {
        free[at] = self;
      }
      if (kind == INPUT) {
        inputs |= self;
      }
      if (kind == JOIN) {
        keyed |= 1 << a | 1 << b;
      }
      if (kind == GROUP) {
        keyed |= 1 << a;
      }
      size++;
      return at;
    }

    private static int ofPart(int[] sets, int view) {
      return view < 0 ? 0 : sets[view];
    }
  }

  /** The changes that were told. */
  private static final class Ledger {
    final int[] source = new int[MOST_CHANGES];
    final long[] row = new long[MOST_CHANGES];
    final int[] weight = new int[MOST_CHANGES];
    final int[] time = new int[MOST_CHANGES];
    int size;

    void add(int ofInput, long ofRow, int ofWeight, int ofTime) {
      set(size, ofInput, ofRow, ofWeight, ofTime);
      size++;
    }

    private void set(int at, int ofInput, long ofRow, int ofWeight, int ofTime) {
      source[at] = ofInput;
      row[at] = ofRow;
      weight[at] = ofWeight;
      time[at] = ofTime;
    }

    int ofInputs(int inputs) {
      int set = 0;
      for (int i = 0; i < size; i++) {
        set |= has(inputs, source[i]) ? 1 << i : 0;
      }
      return set;
    }

    int upTo(int latest) {
      int set = 0;
      for (int i = 0; i < size; i++) {
        set |= isUpTo(time[i], latest) ? 1 << i : 0;
      }
      return set;
    }

    boolean isNewTime(int at) {
      for (int i = 0; i < at; i++) {
        if (time[i] == time[at]) {
          return false;
        }
      }
      return time[at] != LAST_TIME;
    }

    void foldUpTo(int horizon) {
      for (int i = 0; i < size; i++) {
        time[i] = jointTime(time[i], horizon);
        int first = firstLike(i);
        if (first < i) {
          weight[first] += weight[i];
          weight[i] = 0;
        }
      }
      int left = 0;
      for (int i = 0; i < size; i++) {
        if (weight[i] != 0) {
          set(left, source[i], row[i], weight[i], time[i]);
          left++;
        }
      }
      size = left;
    }

    private int firstLike(int at) {
      for (int i = 0; i < at; i++) {
        if (source[i] == source[at] && row[i] == row[at] && time[i] == time[at]) {
          return i;
        }
      }
      return at;
    }
  }

  /** Which times are closed, and what was forgotten. */
  private static final class Calendar {
    final boolean[] closed = new boolean[TIMES];
    int closedCount;
    int forgotten;

    int closeUpTo(int latest) {
      for (int time = 0; time <= latest; time++) {
        if (!closed[time] && isUpTo(time, latest)) {
          closed[time] = true;
          closedCount++;
        }
      }
      return closedCount;
    }
  }

  /** Differences: weights other than 0 of rows at times, by rising rows, then times. */
  private static final class Diffs {
    final long[] row;
    final int[] time;
    final int[] weight;
    int size;

    Diffs(int room) {
      row = new long[room];
      time = new int[room];
      weight = new int[room];
    }

    /* Puts a difference last; weights that are 0 leave it as it was. */
    boolean put(long ofRow, int ofTime, int ofWeight) {
      if (ofWeight == 0) {
        return true;
      }
      if (size >= row.length) {
        return false;
      }
      row[size] = ofRow;
      time[size] = ofTime;
      weight[size] = ofWeight;
      size++;
      return true;
    }

    /* Puts a difference in its order among those from a start on. */
    boolean insert(int start, long ofRow, int ofTime, int ofWeight) {
      if (size >= row.length) {
        return false;
      }
      int lo = start;
      int hi = size;
      if (lo < hi && order(hi - 1, ofRow, ofTime) < 0) {
        lo = hi;
      }
      while (lo < hi) {
        int middle = (lo + hi) >>> 1;
        if (order(middle, ofRow, ofTime) < 0) {
          lo = middle + 1;
        } else {
          hi = middle;
        }
      }
      int behind = size - lo;
      System.arraycopy(row, lo, row, lo + 1, behind);
      System.arraycopy(time, lo, time, lo + 1, behind);
      System.arraycopy(weight, lo, weight, lo + 1, behind);
      row[lo] = ofRow;
      time[lo] = ofTime;
      weight[lo] = ofWeight;
      size++;
      return true;
    }

    /* Less than 0 if the difference at the index is ahead of the row and time. */
    private int order(int index, long ofRow, int ofTime) {
      if (row[index] != ofRow) {
        return row[index] < ofRow ? -1 : 1;
      }
      return time[index] - ofTime;
    }

    /* Becomes both, added; the parts are other objects than this. */
    boolean blend(Diffs one, Diffs other) {
      size = 0;
      int i = 0;
      int j = 0;
      boolean fits = true;
      while (fits && (i < one.size || j < other.size)) {
        int order = i >= one.size ? 1 : -1;
        if (i < one.size && j < other.size) {
          order = one.order(i, other.row[j], other.time[j]);
        }
        if (order < 0) {
          fits = put(one.row[i], one.time[i], one.weight[i]);
          i++;
        } else {
          int more = order == 0 ? one.weight[i] : 0;
          fits = put(other.row[j], other.time[j], other.weight[j] + more);
          i += order == 0 ? 1 : 0;
          j++;
        }
      }
      return fits;
    }

    boolean mirror(Diffs from) {
      size = 0;
      boolean fits = true;
      for (int i = 0; fits && i < from.size; i++) {
        fits = put(from.row[i], from.time[i], -from.weight[i]);
      }
      return fits;
    }

    boolean copy(Diffs from) {
      size = 0;
      boolean fits = true;
      for (int i = 0; fits && i < from.size; i++) {
        fits = put(from.row[i], from.time[i], from.weight[i]);
      }
      return fits;
    }

    boolean isLike(Diffs other) {
      if (size != other.size) {
        return false;
      }
      for (int i = 0; i < size; i++) {
        if (row[i] != other.row[i] || time[i] != other.time[i] || weight[i] != other.weight[i]) {
          return false;
        }
      }
      return true;
    }

    int weightOf(long ofRow, int latest) {
      int sum = 0;
      for (int i = 0; i < size; i++) {
        sum += row[i] == ofRow && isUpTo(time[i], latest) ? weight[i] : 0;
      }
      return sum;
    }

    int weightOfKey(int key, int latest) {
      int sum = 0;
      for (int i = 0; i < size; i++) {
        sum += keyOf(row[i]) == key && isUpTo(time[i], latest) ? weight[i] : 0;
      }
      return sum;
    }

    /* Whether the sums up to the time are the other differences, which all have that time. */
    boolean comesTo(Diffs other, int latest) {
      int j = 0;
      int sum = 0;
      for (int i = 0; i < size; i++) {
        sum += isUpTo(time[i], latest) ? weight[i] : 0;
        boolean last = i + 1 >= size || row[i + 1] != row[i];
        if (last && sum != 0) {
          if (j >= other.size || other.row[j] != row[i] || other.weight[j] != sum) {
            return false;
          }
          j++;
        }
        sum = last ? 0 : sum;
      }
      return j == other.size;
    }
  }

  /** Adds weights of rows at times in any order. */
  private static final class Tally {
    private static final int FIRST_ROOM = 706;
    private static final int FIRST_SPOTS = 1024;
    private static final int GROWTH = 8;

    /* A join has at most 90000 pairs: with more sums than this, over 300 have just one pair. */
    private static final int MOST_SUMS = 45150;

    private static final int LATE = 1000000000;

    private long[] rows = new long[FIRST_ROOM];
    private int[] times = new int[FIRST_ROOM];
    private int[] weights = new int[FIRST_ROOM];

    /* A spot has the index of its sum and this start; what is less was left from earlier. */
    private int[] spots = new int[FIRST_SPOTS];
    private int start = 1;

    private int size;
    boolean over;

    void add(long row, int time, int weight) {
      if (weight == 0 || over) {
        return;
      }
      int spot = spotOf(row, time);
      int at = spots[spot] - start;
      if (at >= 0 && at < size) {
        weights[at] += weight;
        return;
      }
      if (size >= MOST_SUMS) {
        over = true;
        return;
      }
      rows[size] = row;
      times[size] = time;
      weights[size] = weight;
      spots[spot] = start + size;
      size++;
      if (size >= rows.length) {
        widen();
        for (int i = 0; i < size; i++) {
          spots[spotOf(rows[i], times[i])] = start + i;
        }
      }
    }

    private int spotOf(long row, int time) {
      int last = spots.length - 1;
      long mixed = (row ^ (long) time * 7046029254386353131L) * -7046029254386353131L;
      int spot = (int) (mixed >>> 40) & last;
      for (int step = 0; step < last; step++) {
        int at = spots[spot] - start;
        if (at < 0 || at >= size || rows[at] == row && times[at] == time) {
          return spot;
        }
        spot = spot + 1 & last;
      }
      return spot;
    }

    private void widen() {
      int room = rows.length * GROWTH;
      long[] wideRows = new long[room];
      int[] wideTimes = new int[room];
      int[] wideWeights = new int[room];
      for (int i = 0; i < size; i++) {
        wideRows[i] = rows[i];
        wideTimes[i] = times[i];
        wideWeights[i] = weights[i];
      }
      rows = wideRows;
      times = wideTimes;
      weights = wideWeights;
      spots = new int[spots.length * GROWTH];
      start = 1;
    }

    /* Puts the sums other than 0 behind what is there, and is empty then. */
    boolean pour(Diffs to) {
      int from = to.size;
      boolean fits = !over;
      for (int i = 0; fits && i < size; i++) {
        fits = weights[i] == 0 || to.insert(from, rows[i], times[i], weights[i]);
      }
      start += size;
      size = 0;
      over = false;
      if (start > LATE) {
        Arrays.fill(spots, 0);
        start = 1;
      }
      return fits;
    }
  }

  /** Makes the views whose differences come of differences one by one. */
  private static final class Shop {
    private final Tally tally;

    Shop(Tally sums) {
      tally = sums;
    }

    boolean load(Ledger ledger, int view, int chosen, int flat, Diffs to) {
      for (int i = 0; i < ledger.size; i++) {
        if (has(chosen, i) && ledger.source[i] == view) {
          tally.add(ledger.row[i], flat == OWN_TIMES ? ledger.time[i] : flat, ledger.weight[i]);
        }
      }
      return tally.pour(to);
    }

    boolean turn(Diffs from, char sort, int n, Diffs to) {
      for (int i = 0; i < from.size; i++) {
        int key = keyOf(from.row[i]);
        if (sort != 'd' || key != 0) {
          long turned = turned(key, valueOf(from.row[i]), sort, n);
          tally.add(turned, from.time[i], from.weight[i]);
        }
      }
      return tally.pour(to);
    }

    private static long turned(int key, int value, char sort, int n) {
      switch (sort) {
        case 's':
          return rowOf(value, key);
        case '+':
          return rowOf(key, value + n);
        case 'r':
          return rowOf(n == 0 ? 0 : Math.floorMod(value, n), value);
        case 'z':
          return rowOf(0, value);
        default:
          return rowOf(key, key == 0 ? 0 : key == -1 ? -value : value / key);
      }
    }

    boolean keep(Diffs from, char sort, int n, Diffs to) {
      boolean fits = true;
      for (int i = 0; fits && i < from.size; i++) {
        if (passes(keyOf(from.row[i]), valueOf(from.row[i]), sort, n)) {
          fits = to.put(from.row[i], from.time[i], from.weight[i]);
        }
      }
      return fits;
    }

    private static boolean passes(int key, int value, char sort, int n) {
      switch (sort) {
        case '<':
          return value < n;
        case '=':
          return value == n;
        case 'k':
          return key == n;
        default:
          return key < value;
      }
    }

    boolean match(Diffs one, Diffs other, char sort, Diffs to) {
      int first = 0;
      for (int i = 0; i < one.size && !tally.over; i++) {
        int key = keyOf(one.row[i]);
        while (first < other.size && keyOf(other.row[first]) < key) {
          first++;
        }
        int x = valueOf(one.row[i]);
        for (int j = first; j < other.size && keyOf(other.row[j]) == key; j++) {
          int y = valueOf(other.row[j]);
          long row = sort == 'l' ? rowOf(x, y) : rowOf(key, sort == 'p' ? x + y : x);
          tally.add(row, jointTime(one.time[i], other.time[j]), one.weight[i] * other.weight[j]);
        }
      }
      return tally.pour(to);
    }
  }

  /** Looks at the rows of a key, or at one row, at each time at which their sums may be new. */
  private static final class Grouper {
    private static final int MOST_ROWS = 9;

    private final Tally tally;

    /* The numbers of the times that are looked at, and where each stands among them. */
    private final int[] stepsA = new int[SIDE];
    private final int[] stepsB = new int[SIDE];
    private final int[] ranksA = new int[SIDE];
    private final int[] ranksB = new int[SIDE];
    private int countA;
    private int countB;

    /* By times: the sums of one row, and what the rows of the key come to. */
    private final int[] sums = new int[TIMES];
    private final long[] totals = new long[TIMES];
    private final int[] counts = new int[TIMES];
    private final int[] values = new int[TIMES * MOST_ROWS];
    private final int[] weights = new int[TIMES * MOST_ROWS];

    private char sort;
    private int number;

    Grouper(Tally sumsOfRows) {
      tally = sumsOfRows;
    }

    boolean thin(Diffs from, Diffs to) {
      to.size = 0;
      int lo = 0;
      boolean fits = true;
      for (int i = 0; fits && i < from.size; i++) {
        if (i + 1 >= from.size || from.row[i + 1] != from.row[i]) {
          layTimes(from, lo, i + 1);
          addRow(from, lo, i + 1);
          fits = putSigns(from.row[i], to);
          lo = i + 1;
        }
      }
      return fits;
    }

    private boolean putSigns(long row, Diffs to) {
      boolean fits = true;
      for (int i = 0; i < countA; i++) {
        for (int j = 0; fits && j < countB; j++) {
          int weight = sign(i, j) - sign(i - 1, j) - sign(i, j - 1) + sign(i - 1, j - 1);
          fits = to.put(row, SIDE * stepsA[i] + stepsB[j], weight);
        }
      }
      return fits;
    }

    private int sign(int i, int j) {
      return i >= 0 && j >= 0 && sums[i * countB + j] > 0 ? 1 : 0;
    }

    boolean gather(Diffs from, char letter, int n, Diffs to) {
      sort = letter;
      number = n;
      to.size = 0;
      int lo = 0;
      boolean fits = true;
      for (int i = 0; fits && i < from.size; i++) {
        int key = keyOf(from.row[i]);
        if (i + 1 >= from.size || keyOf(from.row[i + 1]) != key) {
          layTimes(from, lo, i + 1);
          Arrays.fill(totals, 0L);
          Arrays.fill(counts, 0);
          if (sort == 'm') {
            lookAtRows(from, lo, i + 1, true);
            setAhead();
          }
          lookAtRows(from, lo, i + 1, false);
          tellKey(key);
          fits = tally.pour(to);
          lo = i + 1;
        }
      }
      return fits;
    }

    private void layTimes(Diffs from, int lo, int hi) {
      Arrays.fill(ranksA, 0);
      Arrays.fill(ranksB, 0);
      for (int i = lo; i < hi; i++) {
        ranksA[from.time[i] / SIDE] = 1;
        ranksB[from.time[i] % SIDE] = 1;
      }
      countA = rank(ranksA, stepsA);
      countB = rank(ranksB, stepsB);
    }

    private static int rank(int[] ranks, int[] steps) {
      int count = 0;
      for (int i = 0; i < SIDE; i++) {
        if (ranks[i] != 0) {
          ranks[i] = count;
          steps[count] = i;
          count++;
        }
      }
      return count;
    }

    /* Finds the sums of the differences of one row up to each time. */
    private void addRow(Diffs from, int lo, int hi) {
      Arrays.fill(sums, 0);
      for (int i = lo; i < hi; i++) {
        int time = from.time[i];
        sums[ranksA[time / SIDE] * countB + ranksB[time % SIDE]] += from.weight[i];
      }
      for (int i = 0; i < countA; i++) {
        for (int j = 1; j < countB; j++) {
          sums[i * countB + j] += sums[i * countB + j - 1];
        }
      }
      for (int cell = countB; cell < countA * countB; cell++) {
        sums[cell] += sums[cell - countB];
      }
    }

    /* By rising values, but falling ones for the greatest, so that the first ones count. */
    private void lookAtRows(Diffs from, int lo, int hi, boolean justCount) {
      boolean falling = sort == 't' || sort == 'g';
      int done = 0;
      for (int i = 0; i < hi - lo; i++) {
        int at = falling ? hi - 1 - i : lo + i;
        int next = falling ? at - 1 : at + 1;
        if (i + 1 >= hi - lo || from.row[next] != from.row[at]) {
          int start = falling ? at : lo + done;
          addRow(from, start, start + i + 1 - done);
          done = i + 1;
          for (int cell = 0; cell < countA * countB; cell++) {
            if (sums[cell] > 0 && justCount) {
              totals[cell] += sums[cell];
            } else if (sums[cell] > 0) {
              take(cell, valueOf(from.row[at]), sums[cell]);
            }
          }
        }
      }
    }

    private void setAhead() {
      for (int cell = 0; cell < countA * countB; cell++) {
        totals[cell] = (totals[cell] - 1) / 2;
      }
    }

    private void take(int cell, int value, int weight) {
      switch (sort) {
        case 'c':
          totals[cell] += weight;
          set(cell, 0, (int) Math.min(totals[cell], 2147483647L), 1);
          break;
        case 's':
          int before = counts[cell] == 0 ? 0 : values[cell * MOST_ROWS];
          set(cell, 0, before + value * weight, 1);
          break;
        case 'm':
          if (counts[cell] == 0 && totals[cell] < weight) {
            set(cell, 0, value, 1);
          }
          totals[cell] -= weight;
          break;
        case 't':
          if (counts[cell] < number && counts[cell] < MOST_ROWS) {
            set(cell, counts[cell], value, weight);
          }
          break;
        default:
          if (counts[cell] == 0) {
            set(cell, 0, value, 1);
          }
      }
    }

    private void set(int cell, int at, int value, int weight) {
      values[cell * MOST_ROWS + at] = value;
      weights[cell * MOST_ROWS + at] = weight;
      counts[cell] = at + 1;
    }

    /* What holds from a time on is taken back at the next ones, where something else is told. */
    private void tellKey(int key) {
      for (int i = 0; i < countA; i++) {
        for (int j = 0; j < countB; j++) {
          int cell = i * countB + j;
          for (int k = cell * MOST_ROWS; k < cell * MOST_ROWS + counts[cell]; k++) {
            long row = rowOf(key, values[k]);
            tally.add(row, SIDE * stepsA[i] + stepsB[j], weights[k]);
            if (i + 1 < countA) {
              tally.add(row, SIDE * stepsA[i + 1] + stepsB[j], -weights[k]);
            }
            if (j + 1 < countB) {
              tally.add(row, SIDE * stepsA[i] + stepsB[j + 1], -weights[k]);
            }
            if (i + 1 < countA && j + 1 < countB) {
              tally.add(row, SIDE * stepsA[i + 1] + stepsB[j + 1], weights[k]);
            }
          }
        }
      }
    }
  }

  /** Finds the differences of views, by some changes and by what variables stand for. */
  private static final class Finder {
    private final Plan plan;
    private final Ledger ledger;
    private final Shop shop;
    private final Grouper grouper;
    private final Memo memo;

    /* By levels and views; a view stands at the latest level whose variable has a part in it. */
    private final Diffs[] values = new Diffs[LEVELS * MOST_VIEWS];
    private final int[] states = new int[LEVELS * MOST_VIEWS];

    /* By levels: the rows so far of the recursion that is under way there. */
    private final Diffs[] soFar = new Diffs[LEVELS];

    /* By variables: the level of the recursion that it belongs to, and a name of its rows. */
    private final int[] level = new int[MOST_VIEWS];
    private final int[] name = new int[MOST_VIEWS];

    private final Diffs none = new Diffs(0);
    private final Diffs next = new Diffs(MOST_DIFFERENCES);
    private final Diffs both = new Diffs(2 * MOST_DIFFERENCES);
    private int chosen = -1;
    private int flat = OWN_TIMES;
    private int era;

    Finder(Plan views, Ledger changes, Shop makes, Grouper groups, Memo remembers) {
      plan = views;
      ledger = changes;
      shop = makes;
      grouper = groups;
      memo = remembers;
    }

    /* Takes a set of changes, all of them at one time if they do not keep their own. */
    void choose(int changes, int time) {
      chosen = changes;
      flat = time;
      drop(-1);
    }

    /* Views that are made of one of these are to be found anew. */
    void drop(int views) {
      era = memo.newEra();
      for (int v = 0; v < plan.size; v++) {
        if ((plan.made[v] & views) != 0) {
          states[v] = UNKNOWN;
        }
      }
    }

    /* Finds a view and those that it is made of; false if one has too many differences. */
    boolean reach(int view, int depth) {
      if (depth >= LEVELS) {
        return false;
      }
      for (int v = 0; v <= view; v++) {
        if (has(plan.near[view], v) && plan.op[v] != VARIABLE) {
          int at = home(v) * MOST_VIEWS + v;
          if (states[at] == UNKNOWN) {
            Diffs to = roomAt(values, at);
            states[at] = at < MOST_VIEWS ? UNKNOWN : recall(v, to);
            if (states[at] == UNKNOWN) {
              to.size = 0;
              states[at] = make(v, to, depth) ? FOUND : TOO_BIG;
              note(v, states[at] == FOUND ? to : null);
            }
          }
          if (states[at] != FOUND) {
            return false;
          }
        }
      }
      return true;
    }

    /* The differences of a view that has been reached. */
    Diffs now(int view) {
      if (view < 0) {
        return none;
      }
      int at = home(view);
      Diffs there = values[at * MOST_VIEWS + view];
      if (plan.op[view] == VARIABLE) {
        there = at == 0 ? none : soFar[at];
      }
      return there == null ? none : there;
    }

    private int home(int view) {
      int latest = 0;
      int left = plan.free[view];
      for (int v = 0; left != 0 && v < MOST_VIEWS; v++) {
        if (has(left, v)) {
          latest = Math.max(latest, level[v]);
          left &= ~(1 << v);
        }
      }
      return latest;
    }

    private static Diffs roomAt(Diffs[] places, int at) {
      Diffs there = places[at];
      if (there == null) {
        there = new Diffs(MOST_DIFFERENCES);
        places[at] = there;
      }
      return there;
    }

    private boolean make(int view, Diffs to, int depth) {
      char sort = plan.sort[view];
      int number = plan.number[view];
      Diffs one = now(plan.first[view]);
      Diffs other = now(plan.second[view]);
      switch (plan.op[view]) {
        case INPUT:
          return shop.load(ledger, view, chosen, flat, to);
        case MAP:
          return shop.turn(one, sort, number, to);
        case FILTER:
          return shop.keep(one, sort, number, to);
        case SUM:
          return to.blend(one, other);
        case NEGATIVE:
          return to.mirror(one);
        case JOIN:
          return shop.match(one, other, sort, to);
        case GROUP:
          return grouper.gather(one, sort, number, to);
        case DISTINCT:
          return grouper.thin(one, to);
        default:
          return recur(view, to, depth);
      }
    }

    /* A recursion inside of others may meet the same rows around it again and again. */
    private int recall(int view, Diffs to) {
      boolean known = has(plan.loops, view);
      return known ? memo.read(view, era, plan.free[view], name, to) : UNKNOWN;
    }

    private void note(int view, Diffs result) {
      if (has(plan.loops, view)) {
        memo.write(view, era, name, result);
      }
    }

    private boolean recur(int view, Diffs to, int depth) {
      Diffs base = now(plan.first[view]);
      int variable = plan.second[view];
      int body = plan.third[view];
      if (!has(plan.free[body], variable)) {
        return reach(body, depth) && both.blend(base, now(body)) && grouper.thin(both, to);
      }
      int inner = depth + 1;
      if (inner >= LEVELS) {
        return false;
      }
      Diffs rows = roomAt(soFar, inner);
      if (!grouper.thin(base, rows)) {
        return false;
      }
      int oldLevel = level[variable];
      int oldName = name[variable];
      boolean named = (plan.made[body] & plan.loops) != 0;
      boolean fits = true;
      boolean settled = false;
      for (int round = 0; fits && !settled && round < ROUNDS; round++) {
        level[variable] = inner;
        name[variable] = named ? memo.nameOf(rows) : 0;
        forgetLevel(inner);
        fits = reach(body, inner) && both.blend(base, now(body)) && grouper.thin(both, next);
        settled = fits && next.isLike(rows);
        fits = fits && rows.copy(next);
      }
      level[variable] = oldLevel;
      name[variable] = oldName;
      return fits && to.copy(rows);
    }

    private void forgetLevel(int at) {
      for (int v = 0; v < plan.size; v++) {
        states[at * MOST_VIEWS + v] = UNKNOWN;
      }
    }
  }

  /** Remembers what recursions inside of recursions came to, by the rows that were around them. */
  private static final class Memo {
    private static final int SHELF = 48;
    private static final int NOTES = 64;
    private static final int NO_NAME = -1;

    /* Differences that have a name; nothing at all has the name 0. */
    private final Diffs[] shelf = new Diffs[SHELF];
    private final int[] names = new int[SHELF];
    private int nextPlace;
    private int lastName;

    private final int[] views = new int[NOTES];
    private final int[] eras = new int[NOTES];
    private final int[] results = new int[NOTES];
    private final int[][] around = new int[NOTES][MOST_VIEWS];
    private int nextNote;
    private int lastEra;

    /* What was found by other changes is no more read in a new era. */
    int newEra() {
      lastEra++;
      return lastEra;
    }

    int nameOf(Diffs rows) {
      if (rows.size == 0) {
        return 0;
      }
      for (int i = 0; i < SHELF; i++) {
        if (names[i] != 0 && shelf[i] != null && shelf[i].isLike(rows)) {
          return names[i];
        }
      }
      int place = nextPlace;
      nextPlace = place + 1 < SHELF ? place + 1 : 0;
      if (shelf[place] == null) {
        shelf[place] = new Diffs(MOST_DIFFERENCES);
      }
      shelf[place].copy(rows);
      lastName++;
      names[place] = lastName;
      return lastName;
    }

    int read(int view, int era, int free, int[] name, Diffs to) {
      for (int i = 0; i < NOTES; i++) {
        if (views[i] == view && eras[i] == era && isSame(free, around[i], name)) {
          int state = fetch(results[i], to);
          if (state != UNKNOWN) {
            return state;
          }
        }
      }
      return UNKNOWN;
    }

    private static boolean isSame(int free, int[] one, int[] other) {
      for (int v = 0; v < MOST_VIEWS; v++) {
        if (has(free, v) && one[v] != other[v]) {
          return false;
        }
      }
      return true;
    }

    private int fetch(int result, Diffs to) {
      if (result == NO_NAME) {
        return TOO_BIG;
      }
      to.size = 0;
      for (int i = 0; result != 0 && i < SHELF; i++) {
        if (names[i] == result && shelf[i] != null) {
          return to.copy(shelf[i]) ? FOUND : TOO_BIG;
        }
      }
      return result == 0 ? FOUND : UNKNOWN;
    }

    void write(int view, int era, int[] name, Diffs result) {
      int note = nextNote;
      nextNote = note + 1 < NOTES ? note + 1 : 0;
      views[note] = view;
      eras[note] = era;
      results[note] = result == null ? NO_NAME : nameOf(result);
      System.arraycopy(name, 0, around[note], 0, MOST_VIEWS);
    }
  }

  /** What was kept last, and how much in all. */
  private static final class Kept {
    final long[] row = new long[MOST_DIFFERENCES];
    final int[] weight = new int[MOST_DIFFERENCES];
    final int[] time = new int[MOST_DIFFERENCES];
    private final int[] places = new int[TIMES + 1];
    int size;
    long inAll;

    int keepRows(Diffs diffs, int latest) {
      size = 0;
      int sum = 0;
      for (int i = 0; i < diffs.size; i++) {
        sum += isUpTo(diffs.time[i], latest) ? diffs.weight[i] : 0;
        boolean last = i + 1 >= diffs.size || diffs.row[i + 1] != diffs.row[i];
        if (last && sum != 0) {
          set(size, diffs.row[i], sum, latest);
          size++;
        }
        sum = last ? 0 : sum;
      }
      inAll += size;
      return size;
    }

    int keepAll(Diffs diffs) {
      Arrays.fill(places, 0);
      for (int i = 0; i < diffs.size; i++) {
        places[diffs.time[i] + 1]++;
      }
      for (int i = 1; i < places.length; i++) {
        places[i] += places[i - 1];
      }
      for (int i = 0; i < diffs.size; i++) {
        set(places[diffs.time[i]], diffs.row[i], diffs.weight[i], diffs.time[i]);
        places[diffs.time[i]]++;
      }
      size = diffs.size;
      inAll += size;
      return size;
    }

    private void set(int at, long ofRow, int ofWeight, int ofTime) {
      row[at] = ofRow;
      weight[at] = ofWeight;
      time[at] = ofTime;
    }
  }
}
