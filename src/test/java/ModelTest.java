import java.util.ArrayList;
import java.util.HashMap;
import java.util.List;
import java.util.Map;
import java.util.NoSuchElementException;
import java.util.Random;
import java.util.TreeMap;
import java.util.TreeSet;

/**
 * Random runs of calls, each answer compared with that of a plain model: it finds each view anew at
 * each time from the sums of the changes up to it, with all 30 rounds of each recursion.
 */
public final class ModelTest {
  private static final int MOST_CALLS = 512;

  /* There is one pair of long runs for so many others. */
  private static final int LONG_SHARE = 80;

  private static int wrong = 0;
  private static final Map<String, Integer> seen = new TreeMap<>();

  public static void main(String[] args) {
    int runs = args.length > 0 ? Integer.parseInt(args[0]) : 800;
    int first = args.length > 1 ? Integer.parseInt(args[1]) : 1;
    for (int seed = first; seed < first + runs && wrong == 0; seed++) {
      new Run(seed).go();
    }
    for (int pair = 0; pair < runs / LONG_SHARE && wrong == 0; pair++) {
      goOnByTurns(new Run(-first - 2 * pair), new Run(-first - 2 * pair - 1));
    }
    for (String what : new String[] {
        "rows UnsupportedOperationException", "explain 1", "explain 2",
        "explain NoSuchElementException", "explain UnsupportedOperationException",
        "errors UnsupportedOperationException", "rows IllegalStateException",
        "forget IllegalStateException", "change IllegalStateException", "isSound 1",
        "meanWeight ArithmeticException", "map IllegalStateException"}) {
      if (args.length == 0 && !seen.containsKey(what)) {
        wrong++;
        System.out.println("the runs never met: " + what);
      }
    }
    if (args.length > 2) {
      System.out.println(seen);
    }
    System.out.println(wrong == 0 ? runs + " runs agree with the model" : wrong + " are wrong");
    System.exit(wrong == 0 ? 0 : 1);
  }

  /* Two objects are used at once, each for all the calls that it is promised for. */
  private static void goOnByTurns(Run one, Run other) {
    one.begin(true);
    other.begin(true);
    while (wrong == 0 && (one.hasMore() || other.hasMore())) {
      one.goOn();
      other.goOn();
    }
  }

  /** One random run on a new object and a new model. */
  private static final class Run {
    private final Random random;
    private final int seed;
    private final DifferenceMill mill = new DifferenceMill();
    private final Model model = new Model();
    private final StringBuilder told = new StringBuilder();
    private final int style;
    private int[] params;
    private int making;
    private int changing;
    private int steps;
    private int mostSteps;

    /* A counted run has as many calls as are promised, and looks at few of the rows that are kept. */
    private boolean counted;
    private int calls;

    private static final String[] MAKING = {"input", "map", "map", "map", "filter", "sum", "sum",
        "negative", "join", "join", "join", "group", "group", "distinct", "variable", "recursion",
        "recursion", "recursion"};
    private static final String[] CHANGING = {"change", "change", "change", "change", "change",
        "change", "change", "change", "rows", "differences", "recursion", "join", "close"};
    private static final String[] ASKING = {"change", "change", "rows", "rows", "rows", "rows",
        "differences", "differences", "differences", "weight", "weight", "errors", "errors",
        "explain", "explain", "explained", "explained", "isFinal", "close", "isClosed", "forget",
        "forget", "changes", "views", "arrangements", "keyAt", "timeAt", "weightAt", "found",
        "closedShare", "meanWeight", "isSound", "map", "recursion", "join", "group", "sum"};

    Run(int seed) {
      this.seed = seed;
      this.random = new Random(seed);
      this.style = random.nextInt(5);
    }

    void go() {
      begin(false);
      while (hasMore() && wrong == 0) {
        goOn();
      }
    }

    void begin(boolean isCounted) {
      counted = isCounted;
      making = 3 + random.nextInt(14);
      changing = random.nextInt(5) == 0 ? 17 : 2 + random.nextInt(14);
      int asking = 20 + random.nextInt(60);
      mostSteps = counted ? MOST_CALLS : making + changing + asking;
      step("input");
      step(random.nextBoolean() ? "variable" : "input");
    }

    boolean hasMore() {
      return steps < mostSteps && (!counted || calls < MOST_CALLS);
    }

    void goOn() {
      if (hasMore()) {
        int i = steps++;
        step(i < making ? pick(MAKING) : i < making + changing ? pick(CHANGING) : pick(ASKING));
      }
    }

    private void step(String wanted) {
      boolean early = wanted.equals("recursion") && !model.hasVariable() && random.nextInt(9) > 0;
      String call = early ? "variable" : wanted;
      params = paramsFor(call);
      if (call.equals("recursion") && model.nestingOf(params) > 2) {
        return;
      }
      calls++;
      Object due = answer(call, true);
      Object got = answer(call, false);
      told.append("  ").append(call).append(java.util.Arrays.toString(params))
          .append(" = ").append(due).append('\n');
      boolean whole = due instanceof String || call.equals("explain") || call.equals("isSound");
      seen.merge(whole ? call + " " + due : call, 1, Integer::sum);
      if (!due.equals(got)) {
        wrong++;
        System.out.println("seed " + seed + ": " + call + java.util.Arrays.toString(params)
            + " answered " + got + ", the model says " + due + "\n" + told);
      } else if (call.equals("rows") || call.equals("differences")) {
        compareKept();
      }
    }

    private void compareKept() {
      int count = model.kept.size();
      for (int i = 0; i < count; i++) {
        boolean looksAt = !counted || i == 0 || i == count - 1 || random.nextInt(count) == 0;
        if (!looksAt || counted && calls + 4 > MOST_CALLS) {
          continue;
        }
        int[] k = model.kept.get(i);
        calls += 4;
        if (mill.keyAt(i) != k[0] || mill.valueAt(i) != k[1] || mill.weightAt(i) != k[2]
            || mill.timeAt(i) != k[3]) {
          wrong++;
          System.out.println("seed " + seed + ": kept row " + i + " is wrong\n" + told);
          return;
        }
      }
    }

    private String pick(String[] calls) {
      return calls[random.nextInt(calls.length)];
    }

    private int view() {
      int count = model.views.size();
      if (random.nextInt(40) == 0 || count == 0) {
        return random.nextInt(3) == 0 ? -1 : count;
      }
      if (random.nextInt(3) == 0) {
        return Math.max(0, count - 1 - random.nextInt(3));
      }
      return random.nextInt(count);
    }

    private int ofKind(String op) {
      List<Integer> some = new ArrayList<>();
      for (int v = 0; v < model.views.size(); v++) {
        if (model.views.get(v).op.equals(op)) {
          some.add(v);
        }
      }
      boolean any = some.isEmpty() || random.nextInt(25) == 0;
      return any ? view() : some.get(random.nextInt(some.size()));
    }

    private int small(int lo, int hi) {
      return lo + random.nextInt(hi - lo + 1);
    }

    private int side() {
      return random.nextInt(40) == 0 ? small(-1, 10) : style == 0 ? small(0, 9) : small(0, 4);
    }

    private int number() {
      if (random.nextInt(60) == 0) {
        int[] edges = {Integer.MIN_VALUE, Integer.MAX_VALUE, 1 << 30, -(1 << 30), 65536};
        return edges[random.nextInt(edges.length)];
      }
      return style == 1 ? small(0, 2) : small(-2, 5);
    }

    private int weight() {
      int r = random.nextInt(60);
      return r == 0 ? Integer.MIN_VALUE : r == 1 ? Integer.MAX_VALUE : r == 2 ? 65536
          : r < 5 ? 0 : r < 15 ? -small(1, 3) : small(1, 3);
    }

    private int kind(String kinds) {
      return random.nextInt(40) == 0 ? 'x' : kinds.charAt(random.nextInt(kinds.length()));
    }

    private int[] paramsFor(String call) {
      switch (call) {
        case "map": {
          int k = kind("s+rzds+");
          return new int[] {view(), k, k == 'r' ? small(random.nextInt(9) == 0 ? 0 : 1, 9) : number()};
        }
        case "filter": return new int[] {view(), kind("<=ko"), number()};
        case "sum": return new int[] {view(), view()};
        case "negative": case "distinct": case "differences": return new int[] {view()};
        case "join": return new int[] {view(), view(), kind("lpe")};
        case "group": {
          int k = kind("cslgmt");
          return new int[] {view(), k, random.nextInt(12) == 0 ? number() : small(1, 3)};
        }
        case "recursion": {
          int variable = ofKind("variable");
          int body = view();
          for (int i = 0; i < 5 && !model.dependsOn(body, variable); i++) {
            body = view();
          }
          return new int[] {view(), variable, body};
        }
        case "change":
          return new int[] {ofKind("input"), style == 3 ? small(0, 1) : number(),
              style == 3 ? small(0, 90) : number(), weight(), side(), side()};
        case "close": case "forget": {
          if (call.equals("forget") && random.nextInt(3) > 0) {
            return new int[] {Math.min(9, model.forgottenA + small(0, 1)),
                Math.min(9, model.forgottenB + small(0, 1))};
          }
          return random.nextInt(12) == 0 ? new int[] {side(), side()}
              : new int[] {small(0, 3), small(0, 3)};
        }
        case "isClosed": return new int[] {side(), side()};
        case "rows": case "errors": case "isFinal":
          return random.nextBoolean() ? new int[] {view(), 9, 9} : new int[] {view(), side(), side()};
        case "weight": case "explain": return rowParams();
        case "keyAt": case "timeAt": case "weightAt": case "explained":
          return new int[] {random.nextInt(8) == 0 ? -1 : small(0, call.equals("explained") ? 1 : 3)};
        default: return new int[0];
      }
    }

    private int[] rowParams() {
      int view = view();
      int key = number();
      int value = number();
      if (view >= 0 && view < model.views.size() && random.nextInt(4) > 0) {
        try {
          Model.Grid g = model.eval(view, new Model.Env(), model.changes);
          TreeMap<Long, Integer> last = g.cells[g.as.length - 1][g.bs.length - 1];
          List<Long> keys = new ArrayList<>(last.keySet());
          if (!keys.isEmpty()) {
            long row = keys.get(random.nextInt(keys.size()));
            key = Model.key(row);
            value = Model.value(row);
          }
        } catch (UnsupportedOperationException e) {
          key++;
        }
      }
      return random.nextBoolean() ? new int[] {view, key, value, 9, 9}
          : new int[] {view, key, value, side(), side()};
    }

    private Object answer(String call, boolean byModel) {
      try {
        return byModel ? model.answer(call, params) : millAnswer(call, params);
      } catch (RuntimeException e) {
        return e.getClass().getSimpleName();
      }
    }

    private Object millAnswer(String call, int[] p) {
      switch (call) {
        case "input": return mill.input();
        case "map": return mill.map(p[0], (char) p[1], p[2]);
        case "filter": return mill.filter(p[0], (char) p[1], p[2]);
        case "sum": return mill.sum(p[0], p[1]);
        case "negative": return mill.negative(p[0]);
        case "join": return mill.join(p[0], p[1], (char) p[2]);
        case "group": return mill.group(p[0], (char) p[1], p[2]);
        case "distinct": return mill.distinct(p[0]);
        case "variable": return mill.variable();
        case "recursion": return mill.recursion(p[0], p[1], p[2]);
        case "views": return mill.views();
        case "arrangements": return mill.arrangements();
        case "change": return mill.change(p[0], p[1], p[2], p[3], p[4], p[5]);
        case "close": return mill.close(p[0], p[1]);
        case "isClosed": return mill.isClosed(p[0], p[1]) ? 1 : 0;
        case "forget": return mill.forget(p[0], p[1]);
        case "changes": return mill.changes();
        case "rows": return mill.rows(p[0], p[1], p[2]);
        case "keyAt": return mill.keyAt(p[0]);
        case "timeAt": return mill.timeAt(p[0]);
        case "weightAt": return mill.weightAt(p[0]);
        case "differences": return mill.differences(p[0]);
        case "weight": return mill.weight(p[0], p[1], p[2], p[3], p[4]);
        case "errors": return mill.errors(p[0], p[1], p[2]);
        case "explain": return mill.explain(p[0], p[1], p[2], p[3], p[4]);
        case "explained": return mill.explained(p[0]);
        case "isFinal": return mill.isFinal(p[0], p[1], p[2]) ? 1 : 0;
        case "found": return mill.found();
        case "closedShare": return mill.closedShare();
        case "meanWeight": return mill.meanWeight();
        default: return mill.isSound() ? 1 : 0;
      }
    }
  }

  /** The document in its plainest form. */
  private static final class Model {
    record View(String op, char kind, int n, int a, int b, int c) {}

    record Change(int input, long row, int weight, int a, int b) {}

    /** What the variables stand for, and what was found with them. */
    static final class Env {
      final Map<Integer, Grid> variables = new HashMap<>();
      final Map<Integer, Grid> known = new HashMap<>();
    }

    /** A collection for each time at which something may be new. */
    static final class Grid {
      final int[] as;
      final int[] bs;
      final TreeMap<Long, Integer>[][] cells;

      @SuppressWarnings("unchecked")
      Grid(int[] as, int[] bs) {
        this.as = as;
        this.bs = bs;
        cells = new TreeMap[as.length][bs.length];
        for (int i = 0; i < as.length; i++) {
          for (int j = 0; j < bs.length; j++) {
            cells[i][j] = new TreeMap<>();
          }
        }
      }

      TreeMap<Long, Integer> at(int a, int b) {
        int i = 0;
        int j = 0;
        while (i + 1 < as.length && as[i + 1] <= a) {
          i++;
        }
        while (j + 1 < bs.length && bs[j + 1] <= b) {
          j++;
        }
        return cells[i][j];
      }

      List<int[]> differences() {
        List<int[]> all = new ArrayList<>();
        for (int i = 0; i < as.length; i++) {
          for (int j = 0; j < bs.length; j++) {
            TreeMap<Long, Integer> d = new TreeMap<>();
            for (int k = 0; k < 4; k++) {
              int x = i - k % 2;
              int y = j - k / 2;
              if (x >= 0 && y >= 0) {
                for (Map.Entry<Long, Integer> e : cells[x][y].entrySet()) {
                  add(d, e.getKey(), k == 0 || k == 3 ? e.getValue() : -e.getValue());
                }
              }
            }
            for (Map.Entry<Long, Integer> e : d.entrySet()) {
              all.add(new int[] {key(e.getKey()), value(e.getKey()), e.getValue(), 10 * as[i] + bs[j]});
            }
          }
        }
        return all;
      }
    }

    final List<View> views = new ArrayList<>();
    List<Change> changes = new ArrayList<>();
    List<int[]> kept = new ArrayList<>();
    List<Integer> proof = new ArrayList<>();
    final boolean[][] closed = new boolean[10][10];
    int forgottenA;
    int forgottenB;
    long found;

    static long row(int key, int value) {
      return ((long) key << 32) + ((long) value + (1L << 31));
    }

    static int key(long row) {
      return (int) (row >> 32);
    }

    static int value(long row) {
      return (int) ((row & 0xffffffffL) - (1L << 31));
    }

    static void add(TreeMap<Long, Integer> to, long row, int weight) {
      int sum = to.getOrDefault(row, 0) + weight;
      if (sum == 0) {
        to.remove(row);
      } else {
        to.put(row, sum);
      }
    }

    Grid eval(int v, Env env, List<Change> some) {
      if (env.known.containsKey(v)) {
        return env.known.get(v);
      }
      TreeSet<Integer> as = new TreeSet<>(List.of(0));
      TreeSet<Integer> bs = new TreeSet<>(List.of(0));
      for (Change c : some) {
        as.add(c.a());
        bs.add(c.b());
      }
      Grid g = new Grid(as.stream().mapToInt(x -> x).toArray(), bs.stream().mapToInt(x -> x).toArray());
      View w = views.get(v);
      if (w.op.equals("recursion")) {
        Grid base = eval(w.a, env, some);
        Grid rows = new Grid(g.as, g.bs);
        each(rows, (i, j, to) -> ones(base.cells[i][j], to));
        Grid now = rows;
        for (int round = 0; round < 30; round++) {
          Env inner = new Env();
          inner.variables.putAll(env.variables);
          inner.variables.put(w.b, now);
          Grid body = eval(w.c, inner, some);
          Grid next = new Grid(g.as, g.bs);
          each(next, (i, j, to) -> {
            TreeMap<Long, Integer> sum = new TreeMap<>(base.cells[i][j]);
            body.cells[i][j].forEach((r, x) -> add(sum, r, x));
            ones(sum, to);
          });
          now = next;
        }
        g = now;
      } else if (w.op.equals("variable")) {
        g = env.variables.getOrDefault(v, g);
      } else if (w.op.equals("input")) {
        for (int i = 0; i < g.as.length; i++) {
          for (int j = 0; j < g.bs.length; j++) {
            for (Change c : some) {
              if (c.input() == v && c.a() <= g.as[i] && c.b() <= g.bs[j]) {
                add(g.cells[i][j], c.row(), c.weight());
              }
            }
          }
        }
      } else {
        Grid one = eval(w.a, env, some);
        Grid other = w.b < 0 ? one : eval(w.b, env, some);
        each(g, (i, j, to) -> make(w, one.cells[i][j], other.cells[i][j], to));
      }
      if (g.differences().size() > 300) {
        throw new UnsupportedOperationException();
      }
      env.known.put(v, g);
      return g;
    }

    interface Cell {
      void fill(int i, int j, TreeMap<Long, Integer> to);
    }

    static void each(Grid g, Cell cell) {
      for (int i = 0; i < g.as.length; i++) {
        for (int j = 0; j < g.bs.length; j++) {
          cell.fill(i, j, g.cells[i][j]);
        }
      }
    }

    static void ones(TreeMap<Long, Integer> from, TreeMap<Long, Integer> to) {
      from.forEach((r, x) -> {
        if (x > 0) {
          to.put(r, 1);
        }
      });
    }

    static void make(View w, TreeMap<Long, Integer> one, TreeMap<Long, Integer> other,
        TreeMap<Long, Integer> to) {
      switch (w.op) {
        case "map": one.forEach((r, x) -> turn(w, key(r), value(r), x, to)); break;
        case "filter":
          one.forEach((r, x) -> {
            boolean keeps = w.kind == '<' ? value(r) < w.n : w.kind == '=' ? value(r) == w.n
                : w.kind == 'k' ? key(r) == w.n : key(r) < value(r);
            if (keeps) {
              to.put(r, x);
            }
          });
          break;
        case "sum":
          one.forEach((r, x) -> add(to, r, x));
          other.forEach((r, x) -> add(to, r, x));
          break;
        case "negative": one.forEach((r, x) -> add(to, r, -x)); break;
        case "join":
          one.forEach((r, x) -> other.forEach((s, y) -> {
            if (key(r) == key(s)) {
              long row = w.kind == 'l' ? row(value(r), value(s))
                  : row(key(r), w.kind == 'p' ? value(r) + value(s) : value(r));
              add(to, row, x * y);
            }
          }));
          break;
        case "group": group(w, one, to); break;
        default: ones(one, to);
      }
    }

    static void turn(View w, int key, int value, int x, TreeMap<Long, Integer> to) {
      if (w.kind == 's') {
        add(to, row(value, key), x);
      } else if (w.kind == '+') {
        add(to, row(key, value + w.n), x);
      } else if (w.kind == 'r') {
        add(to, row(((value % w.n) + w.n) % w.n, value), x);
      } else if (w.kind == 'z') {
        add(to, row(0, value), x);
      } else if (key != 0) {
        add(to, row(key, (int) ((long) value / (long) key)), x);
      }
    }

    static void group(View w, TreeMap<Long, Integer> one, TreeMap<Long, Integer> to) {
      TreeMap<Integer, TreeMap<Integer, Integer>> byKey = new TreeMap<>();
      one.forEach((r, x) -> {
        if (x > 0) {
          byKey.computeIfAbsent(key(r), k -> new TreeMap<>()).put(value(r), x);
        }
      });
      byKey.forEach((key, rows) -> {
        long count = 0;
        int sum = 0;
        for (Map.Entry<Integer, Integer> e : rows.entrySet()) {
          count += e.getValue();
          sum += e.getKey() * e.getValue();
        }
        switch (w.kind) {
          case 'c': to.put(row(key, (int) Math.min(count, Integer.MAX_VALUE)), 1); break;
          case 's': to.put(row(key, sum), 1); break;
          case 'l': to.put(row(key, rows.firstKey()), 1); break;
          case 'g': to.put(row(key, rows.lastKey()), 1); break;
          case 'm': {
            long place = count % 2 == 1 ? count / 2 : count / 2 - 1;
            long ahead = 0;
            for (Map.Entry<Integer, Integer> e : rows.entrySet()) {
              if (place >= ahead && place < ahead + e.getValue()) {
                to.put(row(key, e.getKey()), 1);
              }
              ahead += e.getValue();
            }
            break;
          }
          default: {
            int left = w.n;
            for (Map.Entry<Integer, Integer> e : rows.descendingMap().entrySet()) {
              if (left > 0) {
                to.put(row(key, e.getKey()), e.getValue());
              }
              left--;
            }
          }
        }
      });
    }

    private TreeSet<Integer> madeOf(int v) {
      TreeSet<Integer> all = new TreeSet<>(List.of(v));
      View w = views.get(v);
      for (int part : new int[] {w.a, w.b, w.c}) {
        if (part >= 0) {
          all.addAll(madeOf(part));
        }
      }
      return all;
    }

    boolean hasVariable() {
      return views.stream().anyMatch(w -> w.op.equals("variable"));
    }

    boolean dependsOn(int v, int part) {
      return v >= 0 && v < views.size() && madeOf(v).contains(part);
    }

    int nestingOf(int[] p) {
      int most = 0;
      for (int i = 0; i < 3; i++) {
        boolean there = p[i] >= 0 && p[i] < views.size();
        most = Math.max(most, there ? (i == 2 ? 1 : 0) + nesting(p[i]) : 0);
      }
      return most;
    }

    /* How many recursions are one inside of another: the plain model is too slow for many. */
    int nesting(int v) {
      View w = views.get(v);
      int most = 0;
      for (int part : new int[] {w.a, w.b}) {
        most = Math.max(most, part < 0 ? 0 : nesting(part));
      }
      return Math.max(most, w.c < 0 ? 0 : 1 + nesting(w.c));
    }

    private void mustBeView(int v) {
      if (v < 0 || v >= views.size()) {
        throw new IndexOutOfBoundsException();
      }
    }

    private static void must(boolean holds) {
      if (!holds) {
        throw new IllegalArgumentException();
      }
    }

    private static void mustBeTime(int a, int b) {
      must(a >= 0 && a <= 9 && b >= 0 && b <= 9);
    }

    private void mustBeBehind(int a, int b) {
      if (a < forgottenA || b < forgottenB) {
        throw new IllegalStateException();
      }
    }

    private Object addView(String op, char kind, int n, int a, int b, int c) {
      if (views.size() == 20) {
        throw new IllegalStateException();
      }
      views.add(new View(op, kind, n, a, b, c));
      return views.size() - 1;
    }

    Object answer(String call, int[] p) {
      switch (call) {
        case "input": case "variable": return addView(call, ' ', 0, -1, -1, -1);
        case "map":
          mustBeView(p[0]);
          must("s+rzd".indexOf(p[1]) >= 0 && (p[1] != 'r' || p[2] >= 1 && p[2] <= 9));
          return addView(call, (char) p[1], p[2], p[0], -1, -1);
        case "filter":
          mustBeView(p[0]);
          must("<=ko".indexOf(p[1]) >= 0);
          return addView(call, (char) p[1], p[2], p[0], -1, -1);
        case "sum":
          mustBeView(p[0]);
          mustBeView(p[1]);
          return addView(call, ' ', 0, p[0], p[1], -1);
        case "negative": case "distinct":
          mustBeView(p[0]);
          return addView(call, ' ', 0, p[0], -1, -1);
        case "join":
          mustBeView(p[0]);
          mustBeView(p[1]);
          must("lpe".indexOf(p[2]) >= 0);
          return addView(call, (char) p[2], 0, p[0], p[1], -1);
        case "group":
          mustBeView(p[0]);
          must("cslgmt".indexOf(p[1]) >= 0 && (p[1] != 't' || p[2] >= 1 && p[2] <= 9));
          return addView(call, (char) p[1], p[2], p[0], -1, -1);
        case "recursion":
          mustBeView(p[0]);
          mustBeView(p[1]);
          mustBeView(p[2]);
          must(views.get(p[1]).op.equals("variable"));
          return addView(call, ' ', 0, p[0], p[1], p[2]);
        case "views": return views.size();
        case "arrangements": {
          TreeSet<Integer> keyed = new TreeSet<>();
          for (View w : views) {
            if (w.op.equals("join")) {
              keyed.add(w.a);
              keyed.add(w.b);
            } else if (w.op.equals("group")) {
              keyed.add(w.a);
            }
          }
          return keyed.size();
        }
        default: return answerChanges(call, p);
      }
    }

    private int closedCount() {
      int count = 0;
      for (boolean[] line : closed) {
        for (boolean is : line) {
          count += is ? 1 : 0;
        }
      }
      return count;
    }

    private Object answerChanges(String call, int[] p) {
      switch (call) {
        case "change":
          mustBeView(p[0]);
          must(views.get(p[0]).op.equals("input") && p[3] != 0);
          mustBeTime(p[4], p[5]);
          if (closed[p[4]][p[5]]) {
            throw new UnsupportedOperationException();
          }
          if (changes.size() == 16) {
            throw new IllegalStateException();
          }
          changes.add(new Change(p[0], row(p[1], p[2]), p[3], p[4], p[5]));
          return changes.size();
        case "close":
          mustBeTime(p[0], p[1]);
          for (int a = 0; a <= p[0]; a++) {
            for (int b = 0; b <= p[1]; b++) {
              closed[a][b] = true;
            }
          }
          return closedCount();
        case "isClosed":
          mustBeTime(p[0], p[1]);
          return closed[p[0]][p[1]] ? 1 : 0;
        case "forget":
          mustBeTime(p[0], p[1]);
          if (!closed[p[0]][p[1]]) {
            throw new UnsupportedOperationException();
          }
          mustBeBehind(p[0], p[1]);
          forgottenA = p[0];
          forgottenB = p[1];
          fold();
          return changes.size();
        case "changes": return changes.size();
        case "closedShare": return (float) closedCount() / (float) 100;
        case "found": return found;
        case "meanWeight": {
          if (kept.isEmpty()) {
            throw new ArithmeticException();
          }
          long sum = 0;
          for (int[] k : kept) {
            sum += k[2];
          }
          return (double) sum / (double) kept.size();
        }
        case "isSound": return 1;
        case "explained":
          if (p[0] < 0 || p[0] >= proof.size()) {
            throw new IndexOutOfBoundsException();
          }
          return proof.get(p[0]);
        case "keyAt": case "weightAt": case "timeAt":
          if (p[0] < 0 || p[0] >= kept.size()) {
            throw new IndexOutOfBoundsException();
          }
          return kept.get(p[0])[call.equals("keyAt") ? 0 : call.equals("weightAt") ? 2 : 3];
        default: return answerAsked(call, p);
      }
    }

    private void fold() {
      Map<List<Object>, Integer> sums = new java.util.LinkedHashMap<>();
      for (Change c : changes) {
        int a = Math.max(c.a(), forgottenA);
        int b = Math.max(c.b(), forgottenB);
        sums.merge(List.of(c.input(), c.row(), a, b), c.weight(), (x, y) -> x + y);
      }
      changes = new ArrayList<>();
      sums.forEach((k, x) -> {
        if (x != 0) {
          changes.add(new Change((Integer) k.get(0), (Long) k.get(1), x, (Integer) k.get(2),
              (Integer) k.get(3)));
        }
      });
    }

    private Object answerAsked(String call, int[] p) {
      mustBeView(p[0]);
      if (call.equals("differences")) {
        kept = eval(p[0], new Env(), changes).differences();
        found += kept.size();
        return kept.size();
      }
      int a = p[p.length - 2];
      int b = p[p.length - 1];
      mustBeTime(a, b);
      if (call.equals("isFinal")) {
        boolean inputs = false;
        for (int v : madeOf(p[0])) {
          inputs |= views.get(v).op.equals("input");
        }
        return closed[a][b] || !inputs ? 1 : 0;
      }
      mustBeBehind(a, b);
      TreeMap<Long, Integer> rows = eval(p[0], new Env(), changes).at(a, b);
      switch (call) {
        case "rows":
          kept = new ArrayList<>();
          rows.forEach((r, x) -> kept.add(new int[] {key(r), value(r), x, 10 * a + b}));
          found += kept.size();
          return kept.size();
        case "weight": return rows.getOrDefault(row(p[1], p[2]), 0);
        case "errors": {
          int sum = 0;
          for (int v : madeOf(p[0])) {
            if (views.get(v).op.equals("map") && views.get(v).kind == 'd') {
              for (Map.Entry<Long, Integer> e
                  : eval(views.get(v).a, new Env(), changes).at(a, b).entrySet()) {
                sum += key(e.getKey()) == 0 ? e.getValue() : 0;
              }
            }
          }
          return sum;
        }
        default: return explain(p[0], row(p[1], p[2]), a, b);
      }
    }

    private Object explain(int view, long row, int a, int b) {
      List<List<Integer>> sets = new ArrayList<>();
      sets.add(List.of());
      for (int i = 0; i < changes.size(); i++) {
        sets.add(List.of(i));
      }
      for (int i = 0; i < changes.size(); i++) {
        for (int j = i + 1; j < changes.size(); j++) {
          sets.add(List.of(i, j));
        }
      }
      for (List<Integer> set : sets) {
        List<Change> some = new ArrayList<>();
        for (int i : set) {
          some.add(changes.get(i));
        }
        if (eval(view, new Env(), some).at(a, b).getOrDefault(row, 0) > 0) {
          proof = set;
          return set.size();
        }
      }
      throw new NoSuchElementException();
    }
  }
}
