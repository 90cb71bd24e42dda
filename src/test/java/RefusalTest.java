/**
 * Each "Throws" row of each promise: which exception, which of several, and that such a call
 * changes nothing. The number ahead of a check is that of the promise.
 */
public final class RefusalTest extends Checks {
  /* Numbers of the stage's views that calls below name. */
  private static final int INPUT = 0;
  private static final int VARIABLE = 2;
  private static final int MAP = 3;
  private static final int PATHS = 6;
  private static final int BIG = 10;
  private static final int STAGE_VIEWS = 11;

  private static final int[] NO_VIEWS = {-1, STAGE_VIEWS, STAGE_VIEWS + 1, MIN, MAX};
  private static final int[] NO_VIEWS_OF_20 = {-1, 20, MIN, MAX};
  private static final int[][] CLOSED = {{0, 0}, {1, 1}, {0, 1}, {1, 0}};
  private static final int[][] NOT_BEHIND = {{0, 0}, {0, 1}, {0, 9}};

  private interface Recipe {
    DifferenceMill make();
  }

  private interface Asked {
    Object answer(DifferenceMill m);
  }

  public static void main(String[] args) {
    stageIsAsSaid();
    makingNeedsRoom();
    makingNeedsViews();
    makingNeedsKinds();
    makingInOrder();
    changing();
    changingInOrder();
    closingAndForgetting();
    askingNeedsViewsAndTimes();
    askingNeedsFewDifferences();
    askingInOrder();
    keptOnes();
    nothingKept();
    end("what is refused is refused as said");
  }

  /** A mill where something was kept, explained, closed and forgotten. */
  private static DifferenceMill stage() {
    DifferenceMill m = new DifferenceMill();
    m.input();
    m.input();
    m.variable();
    m.map(INPUT, 'd', 0);
    int turned = m.map(VARIABLE, 's', 0);
    m.recursion(INPUT, VARIABLE, m.join(turned, INPUT, 'l'));
    m.group(1, 'c', 0);
    int more = m.map(VARIABLE, '+', 1);
    int many = m.recursion(INPUT, VARIABLE, more);
    m.join(many, many, 'l');
    tell(m, 0, 1, 2, 1, 0, 0, 2, 3, 1, 1, 0, 0, 5, 2, 0, 1);
    tell(m, 1, 7, 7, 3, 2, 2, 7, 8, -1, 3, 0);
    m.close(1, 1);
    m.forget(1, 0);
    m.explain(PATHS, 1, 3, 9, 9);
    m.rows(PATHS, 9, 9);
    return m;
  }

  private static DifferenceMill fullStage() {
    DifferenceMill m = stage();
    while (m.views() < 20) {
      m.input();
    }
    return m;
  }

  private static DifferenceMill busyStage() {
    DifferenceMill m = stage();
    while (m.changes() < 16) {
      m.change(1, 7, 9, 1, 9, 9);
    }
    return m;
  }

  private static void stageIsAsSaid() {
    DifferenceMill m = stage();
    eq("stage views", m.views(), STAGE_VIEWS);
    eq("stage kept", kept(m, 4, true), "0,5:1@99 1,2:1@99 1,3:1@99 2,3:1@99");
    eq("stage explained", m.explained(0) * 10 + m.explained(1), 1);
    eq("stage found", m.found(), 4L);
    eq("stage changes", m.changes(), 5);
    fails("stage big", UNSUPPORTED, () -> m.differences(BIG));
    fails("stage forgotten", STATE, () -> m.rows(INPUT, 0, 9));
    eq("full stage", fullStage().views(), 20);
    eq("busy stage", busyStage().changes(), 16);
  }

  /** What is refused leaves the mill as one where the call was never made. */
  private static void refused(String what, Class<?> due, Recipe recipe, Asked call) {
    DifferenceMill m = recipe.make();
    String before = glance(m);
    fails(what, due, () -> call.answer(m));
    eq(what + ", what was kept", glance(m), before);
    eq(what + ", all else", whole(m), whole(recipe.make()));
  }

  /* What can be seen without finding or telling anything. */
  private static String glance(DifferenceMill m) {
    StringBuilder text = new StringBuilder();
    text.append(m.views()).append(' ').append(m.changes()).append(' ').append(m.found());
    text.append(' ').append(m.arrangements()).append(' ').append(m.closedShare());
    text.append(' ').append(outcome(m::meanWeight));
    for (int i = 0; i < 6; i++) {
      int at = i;
      text.append(' ').append(outcome(() -> m.keyAt(at))).append(outcome(() -> m.valueAt(at)));
      text.append(outcome(() -> m.weightAt(at))).append(outcome(() -> m.timeAt(at)));
    }
    for (int i = 0; i < 3; i++) {
      int at = i;
      text.append(' ').append(outcome(() -> m.explained(at)));
    }
    return text.toString();
  }

  private static String whole(DifferenceMill m) {
    StringBuilder text = new StringBuilder();
    for (int i = 0; i < m.views(); i++) {
      int view = i;
      text.append(outcome(() -> m.differences(view))).append(' ').append(outcome(m::meanWeight));
      text.append(' ').append(outcome(() -> m.errors(view, 1, 1))).append('\n');
    }
    text.append(outcome(() -> diffs(m, INPUT))).append(outcome(() -> diffs(m, 1)));
    text.append(outcome(() -> m.rows(INPUT, 0, 9))).append(outcome(() -> m.rows(INPUT, 1, 0)));
    for (int time = 0; time < 100; time++) {
      text.append(m.isClosed(time / 10, time % 10) ? 'c' : 'o');
    }
    text.append(m.views() > PATHS ? why(m, PATHS, 1, 3, 9, 9) : "").append(m.isSound());
    text.append(' ').append(outcome(m::input)).append(m.views());
    text.append(' ').append(outcome(() -> m.change(INPUT, 3, 4, 1, 9, 9))).append(m.changes());
    text.append(' ').append(outcome(() -> m.forget(1, 1))).append(m.found());
    return text.toString();
  }

  private static void full(String what, Class<?> due, Asked call) {
    refused(what, due, RefusalTest::fullStage, call);
  }

  private static void staged(String what, Class<?> due, Asked call) {
    refused(what, due, RefusalTest::stage, call);
  }

  private static void busy(String what, Class<?> due, Asked call) {
    refused(what, due, RefusalTest::busyStage, call);
  }

  private static void makingNeedsRoom() {
    full("2 20 views", STATE, m -> m.input());
    full("3 20 views", STATE, m -> m.map(INPUT, 's', 0));
    full("3 20 views, r", STATE, m -> m.map(INPUT, 'r', 9));
    full("4 20 views", STATE, m -> m.filter(INPUT, '<', 0));
    full("5 20 views", STATE, m -> m.sum(INPUT, 19));
    full("6 20 views", STATE, m -> m.negative(19));
    full("7 20 views", STATE, m -> m.join(INPUT, 19, 'l'));
    full("8 20 views", STATE, m -> m.group(INPUT, 'c', 0));
    full("8 20 views, t", STATE, m -> m.group(INPUT, 't', 9));
    full("9 20 views", STATE, m -> m.distinct(INPUT));
    full("10 20 views", STATE, m -> m.variable());
    full("11 20 views", STATE, m -> m.recursion(INPUT, VARIABLE, MAP));
  }

  private static void makingNeedsViews() {
    for (int no : NO_VIEWS) {
      staged("3 view " + no, BOUNDS, m -> m.map(no, 's', 0));
      staged("4 view " + no, BOUNDS, m -> m.filter(no, 'o', 0));
      staged("5 view " + no, BOUNDS, m -> m.sum(no, INPUT));
      staged("5 other " + no, BOUNDS, m -> m.sum(INPUT, no));
      staged("6 view " + no, BOUNDS, m -> m.negative(no));
      staged("7 view " + no, BOUNDS, m -> m.join(no, INPUT, 'l'));
      staged("7 other " + no, BOUNDS, m -> m.join(INPUT, no, 'l'));
      staged("8 view " + no, BOUNDS, m -> m.group(no, 'c', 0));
      staged("9 view " + no, BOUNDS, m -> m.distinct(no));
      staged("11 base " + no, BOUNDS, m -> m.recursion(no, VARIABLE, MAP));
      staged("11 variable " + no, BOUNDS, m -> m.recursion(INPUT, no, MAP));
      staged("11 body " + no, BOUNDS, m -> m.recursion(INPUT, VARIABLE, no));
    }
  }

  private static void makingNeedsKinds() {
    for (char no : new char[] {0, ' ', 'S', '-', '<', 'k', 'c', 'l', 't', 's' + 256, 65535}) {
      staged("3 kind " + (int) no, ARGUMENT, m -> m.map(INPUT, no, 1));
    }
    for (char no : new char[] {0, ' ', '>', 'K', 's', 'd', 'l', '<' + 256, 65535}) {
      staged("4 kind " + (int) no, ARGUMENT, m -> m.filter(INPUT, no, 1));
    }
    for (char no : new char[] {0, ' ', 'L', 's', 'r', 'k', 'l' + 256, 65535}) {
      staged("7 kind " + (int) no, ARGUMENT, m -> m.join(INPUT, 1, no));
    }
    for (char no : new char[] {0, ' ', 'T', 'd', 'r', '+', 't' + 256, 65535}) {
      staged("8 kind " + (int) no, ARGUMENT, m -> m.group(INPUT, no, 1));
    }
    for (int no : NO_SMALL_NUMBERS) {
      staged("3 r " + no, ARGUMENT, m -> m.map(INPUT, 'r', no));
      staged("8 t " + no, ARGUMENT, m -> m.group(INPUT, 't', no));
    }
    for (int i = 0; i < STAGE_VIEWS; i++) {
      int no = i;
      if (no != VARIABLE) {
        staged("11 no variable " + no, ARGUMENT, m -> m.recursion(INPUT, no, MAP));
      }
    }
  }

  /** No such view comes ahead of no such kind or number, and this ahead of 20 views. */
  private static void makingInOrder() {
    for (int no : NO_VIEWS_OF_20) {
      full("3 view, kind, 20", BOUNDS, m -> m.map(no, '?', 0));
      full("3 view, number, 20", BOUNDS, m -> m.map(no, 'r', 0));
      full("3 view, 20", BOUNDS, m -> m.map(no, 's', 0));
      full("4 view, kind, 20", BOUNDS, m -> m.filter(no, '?', 0));
      full("4 view, 20", BOUNDS, m -> m.filter(no, '<', 0));
      full("5 view, 20", BOUNDS, m -> m.sum(no, INPUT));
      full("5 other, 20", BOUNDS, m -> m.sum(INPUT, no));
      full("6 view, 20", BOUNDS, m -> m.negative(no));
      full("7 view, kind, 20", BOUNDS, m -> m.join(no, INPUT, '?'));
      full("7 other, kind, 20", BOUNDS, m -> m.join(INPUT, no, '?'));
      full("7 view, 20", BOUNDS, m -> m.join(no, INPUT, 'l'));
      full("7 other, 20", BOUNDS, m -> m.join(INPUT, no, 'l'));
      full("8 view, kind, 20", BOUNDS, m -> m.group(no, '?', 0));
      full("8 view, number, 20", BOUNDS, m -> m.group(no, 't', 10));
      full("8 view, 20", BOUNDS, m -> m.group(no, 'c', 0));
      full("9 view, 20", BOUNDS, m -> m.distinct(no));
      full("11 base, no variable, 20", BOUNDS, m -> m.recursion(no, INPUT, MAP));
      full("11 variable, 20", BOUNDS, m -> m.recursion(INPUT, no, MAP));
      full("11 body, no variable, 20", BOUNDS, m -> m.recursion(INPUT, INPUT, no));
    }
    full("3 kind, 20", ARGUMENT, m -> m.map(INPUT, '?', 1));
    full("3 number, 20", ARGUMENT, m -> m.map(INPUT, 'r', 10));
    full("4 kind, 20", ARGUMENT, m -> m.filter(INPUT, '?', 1));
    full("7 kind, 20", ARGUMENT, m -> m.join(INPUT, INPUT, '?'));
    full("8 kind, 20", ARGUMENT, m -> m.group(INPUT, '?', 1));
    full("8 number, 20", ARGUMENT, m -> m.group(INPUT, 't', 0));
    full("11 no variable, 20", ARGUMENT, m -> m.recursion(INPUT, INPUT, MAP));
  }

  private static void changing() {
    for (int no : NO_VIEWS) {
      staged("14 view " + no, BOUNDS, m -> m.change(no, 1, 1, 1, 9, 9));
    }
    for (int i = VARIABLE; i < STAGE_VIEWS; i++) {
      int no = i;
      staged("14 no input " + no, ARGUMENT, m -> m.change(no, 1, 1, 1, 9, 9));
    }
    staged("14 weight 0", ARGUMENT, m -> m.change(INPUT, 1, 1, 0, 9, 9));
    for (int[] no : NO_TIMES) {
      staged("14 no time", ARGUMENT, m -> m.change(INPUT, 1, 1, 1, no[0], no[1]));
    }
    for (int[] no : CLOSED) {
      staged("14 closed", UNSUPPORTED, m -> m.change(INPUT, 1, 1, 1, no[0], no[1]));
    }
    busy("14 16 changes", STATE, m -> m.change(INPUT, 1, 1, 1, 9, 9));
    busy("14 16 changes, none is left of both", STATE, m -> m.change(1, 7, 9, -1, 9, 9));
  }

  private static void changingInOrder() {
    busy("14 view, weight, time, 16", BOUNDS, m -> m.change(-1, 1, 1, 0, 10, 0));
    busy("14 view, closed, 16", BOUNDS, m -> m.change(STAGE_VIEWS, 1, 1, 1, 0, 0));
    busy("14 view, 16", BOUNDS, m -> m.change(MAX, 1, 1, 1, 9, 9));
    busy("14 no input, closed, 16", ARGUMENT, m -> m.change(VARIABLE, 1, 1, 1, 0, 0));
    busy("14 no input, 16", ARGUMENT, m -> m.change(MAP, 1, 1, 1, 9, 9));
    busy("14 weight, closed, 16", ARGUMENT, m -> m.change(INPUT, 1, 1, 0, 1, 1));
    busy("14 weight, 16", ARGUMENT, m -> m.change(INPUT, 1, 1, 0, 9, 9));
    busy("14 time, 16", ARGUMENT, m -> m.change(INPUT, 1, 1, 1, 9, 10));
    busy("14 closed, 16", UNSUPPORTED, m -> m.change(INPUT, 1, 1, 1, 1, 1));
  }

  private static void closingAndForgetting() {
    for (int[] no : NO_TIMES) {
      staged("15 no time", ARGUMENT, m -> m.close(no[0], no[1]));
      staged("16 no time", ARGUMENT, m -> m.isClosed(no[0], no[1]));
      staged("17 no time", ARGUMENT, m -> m.forget(no[0], no[1]));
    }
    for (int[] no : new int[][] {{1, 2}, {2, 0}, {2, 2}, {9, 9}}) {
      staged("17 not closed", UNSUPPORTED, m -> m.forget(no[0], no[1]));
    }
    staged("17 not behind", STATE, m -> m.forget(0, 0));
    staged("17 not behind, beside", STATE, m -> m.forget(0, 1));
    staged("17 not closed, not behind", UNSUPPORTED, m -> m.forget(0, 2));
    staged("17 not closed, not behind, last", UNSUPPORTED, m -> m.forget(0, 9));
  }

  private static void askingNeedsViewsAndTimes() {
    for (int no : NO_VIEWS) {
      staged("19 view " + no, BOUNDS, m -> m.rows(no, 9, 9));
      staged("24 view " + no, BOUNDS, m -> m.differences(no));
      staged("25 view " + no, BOUNDS, m -> m.weight(no, 1, 2, 9, 9));
      staged("26 view " + no, BOUNDS, m -> m.errors(no, 9, 9));
      staged("27 view " + no, BOUNDS, m -> m.explain(no, 1, 2, 9, 9));
      staged("29 view " + no, BOUNDS, m -> m.isFinal(no, 9, 9));
    }
    for (int[] no : NO_TIMES) {
      staged("19 no time", ARGUMENT, m -> m.rows(INPUT, no[0], no[1]));
      staged("25 no time", ARGUMENT, m -> m.weight(INPUT, 1, 2, no[0], no[1]));
      staged("26 no time", ARGUMENT, m -> m.errors(INPUT, no[0], no[1]));
      staged("27 no time", ARGUMENT, m -> m.explain(INPUT, 1, 2, no[0], no[1]));
      staged("29 no time", ARGUMENT, m -> m.isFinal(INPUT, no[0], no[1]));
    }
    for (int[] no : NOT_BEHIND) {
      staged("19 not behind", STATE, m -> m.rows(INPUT, no[0], no[1]));
      staged("25 not behind", STATE, m -> m.weight(INPUT, 1, 2, no[0], no[1]));
      staged("26 not behind", STATE, m -> m.errors(INPUT, no[0], no[1]));
      staged("27 not behind", STATE, m -> m.explain(INPUT, 1, 2, no[0], no[1]));
    }
  }

  private static void askingNeedsFewDifferences() {
    for (int[] time : new int[][] {{9, 9}, {1, 0}}) {
      staged("19 too many", UNSUPPORTED, m -> m.rows(BIG, time[0], time[1]));
      staged("25 too many", UNSUPPORTED, m -> m.weight(BIG, 9, 9, time[0], time[1]));
      staged("26 too many", UNSUPPORTED, m -> m.errors(BIG, time[0], time[1]));
      staged("27 too many", UNSUPPORTED, m -> m.explain(BIG, 9, 9, time[0], time[1]));
    }
    staged("24 too many", UNSUPPORTED, m -> m.differences(BIG));
    staged("27 no such row", NO_ELEMENT, m -> m.explain(PATHS, 3, 1, 9, 9));
    staged("27 not yet there", NO_ELEMENT, m -> m.explain(PATHS, 0, 5, 1, 0));
    staged("27 less than 0", NO_ELEMENT, m -> m.explain(1, 7, 8, 9, 9));
  }

  private static void askingInOrder() {
    staged("19 view, time", BOUNDS, m -> m.rows(STAGE_VIEWS, 0, 10));
    staged("19 view, not behind", BOUNDS, m -> m.rows(STAGE_VIEWS, 0, 0));
    staged("19 time, too many", ARGUMENT, m -> m.rows(BIG, 10, 0));
    staged("19 not behind, too many", STATE, m -> m.rows(BIG, 0, 0));
    staged("25 view, time", BOUNDS, m -> m.weight(-1, 1, 2, 0, 10));
    staged("25 view, not behind", BOUNDS, m -> m.weight(-1, 1, 2, 0, 0));
    staged("25 time, too many", ARGUMENT, m -> m.weight(BIG, 1, 2, 10, 0));
    staged("25 not behind, too many", STATE, m -> m.weight(BIG, 1, 2, 0, 0));
    staged("26 view, time", BOUNDS, m -> m.errors(MAX, 0, 10));
    staged("26 view, not behind", BOUNDS, m -> m.errors(MAX, 0, 0));
    staged("26 time, too many", ARGUMENT, m -> m.errors(BIG, -1, 0));
    staged("26 not behind, too many", STATE, m -> m.errors(BIG, 0, 9));
    staged("27 view, time", BOUNDS, m -> m.explain(MIN, 1, 2, 0, 10));
    staged("27 view, not behind", BOUNDS, m -> m.explain(MIN, 1, 2, 0, 0));
    staged("27 time, too many", ARGUMENT, m -> m.explain(BIG, 1, 2, 9, 10));
    staged("27 time, no such row", ARGUMENT, m -> m.explain(PATHS, 3, 1, 9, 10));
    staged("27 not behind, too many", STATE, m -> m.explain(BIG, 1, 2, 0, 5));
    staged("27 not behind, no such row", STATE, m -> m.explain(PATHS, 3, 1, 0, 5));
    staged("27 too many, no such row", UNSUPPORTED, m -> m.explain(BIG, -7, -7, 9, 9));
    staged("29 view, time", BOUNDS, m -> m.isFinal(STAGE_VIEWS, 0, 10));
  }

  private static void keptOnes() {
    for (int no : new int[] {-1, 4, 5, 300, MIN, MAX}) {
      staged("20 index " + no, BOUNDS, m -> m.keyAt(no));
      staged("21 index " + no, BOUNDS, m -> m.valueAt(no));
      staged("22 index " + no, BOUNDS, m -> m.weightAt(no));
      staged("23 index " + no, BOUNDS, m -> m.timeAt(no));
    }
    for (int no : new int[] {-1, 2, 3, 16, MIN, MAX}) {
      staged("28 index " + no, BOUNDS, m -> m.explained(no));
    }
  }

  private static DifferenceMill emptied() {
    DifferenceMill m = stage();
    m.rows(VARIABLE, 9, 9);
    return m;
  }

  private static void nothingKept() {
    Recipe[] recipes = {DifferenceMill::new, () -> mill(1, 1, 1, 0, 0), RefusalTest::emptied};
    for (Recipe recipe : recipes) {
      refused("32 none", ARITHMETIC, recipe, m -> m.meanWeight());
      for (int no : new int[] {0, -1, 1}) {
        refused("20 none", BOUNDS, recipe, m -> m.keyAt(no));
        refused("21 none", BOUNDS, recipe, m -> m.valueAt(no));
        refused("22 none", BOUNDS, recipe, m -> m.weightAt(no));
        refused("23 none", BOUNDS, recipe, m -> m.timeAt(no));
      }
    }
    refused("28 none", BOUNDS, DifferenceMill::new, m -> m.explained(0));
    refused("28 none was asked for", BOUNDS, () -> mill(1, 1, 1, 0, 0), m -> m.explained(0));
    refused("3 no views", BOUNDS, DifferenceMill::new, m -> m.map(0, 's', 0));
    refused("14 no views", BOUNDS, DifferenceMill::new, m -> m.change(0, 1, 1, 1, 0, 0));
    refused("19 no views", BOUNDS, DifferenceMill::new, m -> m.rows(0, 0, 0));
    refused("24 no views", BOUNDS, DifferenceMill::new, m -> m.differences(0));
    refused("29 no views", BOUNDS, DifferenceMill::new, m -> m.isFinal(0, 0, 0));
  }
}
