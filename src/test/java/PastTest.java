/** Closed and forgotten times: what is told, asked and numbered before, at and behind them. */
public final class PastTest extends Checks {
  public static void main(String[] args) {
    closedTimes();
    closingAgain();
    changesBesideClosedTimes();
    timesToAsk();
    timesToForget();
    jointTimes();
    changesThatBecomeOne();
    changesThatBecomeNone();
    changesThatStayApart();
    numbersAfterwards();
    explainedAsItWas();
    explainByWhatIsLeft();
    changesAfterForgetting();
    forgettingTwice();
    keptStays();
    viewsOfTheForgotten();
    errorsOfTheForgotten();
    soundAfterwards();
    end("the past is as said");
  }

  /** A time is closed by each one that it is up to, and by no other. */
  private static void closedTimes() {
    for (int a = 0; a < 10; a += 3) {
      for (int b = 0; b < 10; b += 3) {
        DifferenceMill m = new DifferenceMill();
        m.close(a, b);
        int count = 0;
        for (int time = 0; time < 100; time++) {
          boolean due = time / 10 <= a && time % 10 <= b;
          eq("16 " + time + " by " + a + ", " + b, m.isClosed(time / 10, time % 10), due);
          count += due ? 1 : 0;
        }
        eq("15 again " + a + ", " + b, m.close(0, 0), count);
      }
    }
  }

  private static void closingAgain() {
    DifferenceMill m = new DifferenceMill();
    eq("15 first", m.close(2, 3), 12);
    eq("15 up to it", m.close(1, 3), 12);
    eq("15 beside it", m.close(4, 0), 14);
    eq("15 beside both", m.close(0, 5), 16);
    eq("15 joint", m.close(4, 5), 30);
    eq("31 share", m.closedShare(), 30f / 100f);
    eq("16 open still", m.isClosed(5, 0) || m.isClosed(0, 6), false);
  }

  private static void changesBesideClosedTimes() {
    DifferenceMill m = mill();
    m.close(2, 1);
    m.close(0, 4);
    for (int time = 0; time < 100; time++) {
      int a = time / 10;
      int b = time % 10;
      boolean closed = a <= 2 && b <= 1 || a == 0 && b <= 4;
      if (closed || m.changes() == 16) {
        fails("14 at " + time, closed ? UNSUPPORTED : STATE, () -> m.change(0, 10 * a + b, 1, 1, a, b));
      } else {
        int before = m.changes();
        eq("14 at " + time, m.change(0, time, 1, 1, a, b), before + 1);
      }
    }
    eq("18 16", m.changes(), 16);
    eq("24 the first of them", diffs(m, 0).substring(0, 8), "5,1:1@5 ");
    DifferenceMill late = mill(1, 1, 1, 0, 0);
    late.close(0, 0);
    eq("14 rows of a closed time stay", last(late, 0), "1,1:1");
    eq("14 a late change at an open time", late.change(0, 1, 1, 1, 0, 1), 2);
    eq("19 the closed time", at(late, 0, 0, 0), "1,1:1");
    eq("19 the open time", at(late, 0, 0, 1), "1,1:2");
  }

  /** Each of the 100 times can be asked, or not, when 3, 4 was forgotten. */
  private static void timesToAsk() {
    DifferenceMill m = mill(1, 2, 3, 0, 0, 0, 1, 1, 9, 9);
    int d = m.map(0, 'd', 0);
    m.close(3, 4);
    m.forget(3, 4);
    for (int time = 0; time < 100; time++) {
      int a = time / 10;
      int b = time % 10;
      boolean asked = a >= 3 && b >= 4;
      int count = time == 99 ? 2 : 1;
      eq("19 at " + time, outcome(() -> m.rows(0, a, b)), asked ? count : STATE);
      eq("25 at " + time, outcome(() -> m.weight(0, 1, 2, a, b)), asked ? 3 : STATE);
      eq("26 at " + time, outcome(() -> m.errors(d, a, b)), asked ? count - 1 : STATE);
      eq("27 at " + time, outcome(() -> m.explain(0, 1, 2, a, b)), asked ? 1 : STATE);
    }
    eq("29 at a time that is not asked", m.isFinal(0, 0, 0), true);
    eq("29 at one that is open", m.isFinal(0, 0, 9), false);
    eq("24 at no time", m.differences(0), 2);
    DifferenceMill first = mill(1, 2, 3, 0, 0);
    eq("19 at first, all can be asked", first.rows(0, 0, 0) + first.rows(0, 0, 9) + first.rows(0, 9, 0), 3);
  }

  private static void timesToForget() {
    DifferenceMill m = mill();
    m.close(3, 5);
    m.close(6, 2);
    fails("17 not closed", UNSUPPORTED, () -> m.forget(6, 5));
    eq("17 first", m.forget(2, 2), 0);
    fails("17 less in both", STATE, () -> m.forget(1, 1));
    fails("17 less in one", STATE, () -> m.forget(3, 1));
    fails("17 less in the other", STATE, () -> m.forget(1, 5));
    eq("17 the same", m.forget(2, 2), 0);
    eq("17 beside", m.forget(3, 2), 0);
    eq("17 more in one", m.forget(6, 2), 0);
    fails("17 closed, but not behind", STATE, () -> m.forget(3, 5));
    fails("17 not closed, and behind", UNSUPPORTED, () -> m.forget(7, 2));
    fails("17 not closed, and not behind", UNSUPPORTED, () -> m.forget(5, 9));
    fails("17 the first again", STATE, () -> m.forget(2, 2));
    fails("19 the first again", STATE, () -> { m.input(); return m.rows(0, 2, 2); });
    m.close(9, 9);
    eq("17 the last time", m.forget(9, 9), 0);
    fails("17 none behind", STATE, () -> m.forget(9, 8));
  }

  /** Each change has its joint time with the one forgotten, also one that is not up to it. */
  private static void jointTimes() {
    DifferenceMill m = mill(1, 0, 1, 0, 0, 2, 0, 1, 3, 3, 3, 0, 1, 0, 5, 4, 0, 1, 7, 0, 5, 0, 1, 4, 4,
        6, 0, 1, 2, 9, 7, 0, 1, 9, 1, 8, 0, 1, 3, 0);
    m.close(3, 3);
    eq("17 none become one", m.forget(3, 3), 8);
    eq("17 joint times", diffs(m, 0), "1,0:1@33 2,0:1@33 8,0:1@33 3,0:1@35 6,0:1@39 5,0:1@44 4,0:1@73 "
        + "7,0:1@93");
    eq("17 the time itself", m.rows(0, 3, 3), 3);
    eq("17 behind in one", m.rows(0, 3, 9), 5);
    eq("17 behind in the other", m.rows(0, 9, 3), 5);
  }

  private static void changesThatBecomeOne() {
    DifferenceMill m = mill(1, 1, 2, 0, 0, 1, 1, 3, 1, 0, 1, 2, 7, 0, 1, 1, 1, -4, 0, 1, 1, 1, 9, 0, 3,
        1, 1, 1, 2, 3);
    int other = m.input();
    tell(m, other, 1, 1, 5, 0, 0, 1, 1, 6, 1, 1);
    m.close(1, 1);
    eq("17 six are left", m.forget(1, 1), 5);
    eq("18 five", m.changes(), 5);
    eq("17 of one input", diffs(m, 0), "1,1:1@11 1,2:7@11 1,1:9@13 1,1:1@23");
    eq("17 of the other", diffs(m, other), "1,1:11@11");
    DifferenceMill apart = mill(1, 1, 1, 5, 5, 1, 1, 1, 5, 5, 2, 2, 1, 5, 6);
    apart.close(0, 0);
    eq("17 the same row and time, all behind", apart.forget(0, 0), 2);
    eq("17 their weights", diffs(apart, 0), "1,1:2@55 2,2:1@56");
    eq("27 one is enough", why(apart, 0, 1, 1, 9, 9), "0");
  }

  private static void changesThatBecomeNone() {
    DifferenceMill m = mill(1, 1, 2, 0, 0, 2, 2, 1, 0, 0, 1, 1, -2, 1, 1, 3, 3, 1, 0, 1, 3, 3, 1, 1, 0,
        3, 3, -2, 1, 1, 4, 4, 1, 0, 0);
    m.close(1, 1);
    eq("17 two are left", m.forget(1, 1), 2);
    eq("17 which", diffs(m, 0), "2,2:1@11 4,4:1@11");
    eq("27 the numbers move up", why(m, 0, 2, 2, 9, 9) + why(m, 0, 4, 4, 9, 9), "01");
    DifferenceMill back = mill(1, 1, 2, 0, 0, 1, 1, -2, 0, 0, 1, 1, 5, 0, 0);
    back.close(0, 0);
    eq("17 none in between", back.forget(0, 0), 1);
    eq("17 all three", diffs(back, 0), "1,1:5@0");
    DifferenceMill none = mill(1, 1, 2, 0, 0, 1, 1, -2, 9, 9, 2, 2, 1, 3, 3, 2, 2, -1, 3, 3);
    none.close(9, 9);
    eq("17 none at all", none.forget(9, 9), 0);
    eq("18 none at all", none.changes(), 0);
    eq("24 none at all", none.differences(0), 0);
    fails("27 none at all", NO_ELEMENT, () -> none.explain(0, 1, 1, 9, 9));
  }

  /** Another input, key, value or time: then they are not one. */
  private static void changesThatStayApart() {
    DifferenceMill m = mill(1, 2, 1, 0, 0, 1, 3, -1, 0, 0, 2, 2, -1, 0, 0, 2, 1, -1, 0, 0, 1, 2, -1, 0, 2,
        1, 2, -1, 2, 0);
    int other = m.input();
    tell(m, other, 1, 2, -1, 0, 0);
    m.close(1, 1);
    eq("17 seven", m.forget(1, 1), 7);
    eq("17 of one input", diffs(m, 0), "1,2:1@11 1,3:-1@11 2,1:-1@11 2,2:-1@11 1,2:-1@12 1,2:-1@21");
    eq("17 of the other", diffs(m, other), "1,2:-1@11");
  }

  /** One has the number of the first one, the others keep their order, from 0 on. */
  private static void numbersAfterwards() {
    DifferenceMill m = mill(9, 9, 1, 0, 0, 1, 1, 1, 1, 0, 2, 2, 1, 0, 0, 9, 9, -1, 0, 1, 3, 3, 1, 5, 5,
        1, 1, 1, 0, 1, 4, 4, 1, 0, 0, 3, 3, 1, 5, 5, 5, 5, 1, 9, 9);
    eq("27 before", why(m, 0, 5, 5, 9, 9), "8");
    m.close(1, 1);
    eq("17 five are left", m.forget(1, 1), 5);
    String[] due = {"1,1", "2,2", "3,3", "4,4", "5,5"};
    for (int i = 0; i < due.length; i++) {
      eq("17 the number of " + due[i], why(m, 0, i + 1, i + 1, 9, 9), "" + i);
    }
    eq("14 the next number", m.change(0, 6, 6, 1, 9, 9), 6);
    eq("27 the next number", why(m, 0, 6, 6, 9, 9), "5");
    eq("17 again, of those behind too", m.forget(1, 1), 6);
    tell(m, 0, 2, 2, 1, 9, 9, 2, 2, 1, 9, 9);
    m.close(9, 9);
    eq("17 all at one time", m.forget(9, 9), 6);
    eq("17 their weights", last(m, 0), "1,1:2 2,2:3 3,3:2 4,4:1 5,5:1 6,6:1");
    eq("17 the first one's number", why(m, 0, 2, 2, 9, 9), "1");
  }

  private static void explainedAsItWas() {
    DifferenceMill m = mill(1, 1, 1, 0, 0, 1, 1, -1, 0, 0, 2, 2, 1, 0, 0, 2, 3, 1, 0, 0);
    int pairs = m.join(0, 0, 'l');
    eq("27 before", why(m, pairs, 2, 3, 9, 9), "2 3");
    m.close(0, 0);
    eq("17 two are left", m.forget(0, 0), 2);
    eq("28 as it was then", m.explained(0) * 10 + m.explained(1), 23);
    eq("27 afterwards", why(m, pairs, 2, 3, 9, 9), "0 1");
    eq("28 as it is now", m.explained(0) * 10 + m.explained(1), 1);
    m.change(0, 2, 2, -1, 1, 0);
    eq("28 when more was told", m.explained(1), 1);
  }

  /** A change that was one of several before is not tried alone any more. */
  private static void explainByWhatIsLeft() {
    DifferenceMill m = mill(1, 1, -2, 0, 0, 1, 1, 1, 0, 0, 3, 1, 1, 0, 0, 3, 1, 1, 0, 0);
    int count = m.group(0, 'c', 0);
    eq("27 one alone", why(m, 0, 1, 1, 9, 9), "1");
    eq("27 two of them", why(m, count, 3, 2, 9, 9), "2 3");
    m.close(0, 0);
    eq("17 two are left", m.forget(0, 0), 2);
    eq("27 none alone", why(m, 0, 1, 1, 9, 9), NO_ELEMENT.toString());
    eq("28 kept still", m.explained(1), 3);
    eq("27 one is both", why(m, count, 3, 2, 9, 9), "1");
  }

  /** At an open time that what was forgotten is not up to, a change is told as ever. */
  private static void changesAfterForgetting() {
    DifferenceMill m = mill(1, 1, 1, 0, 0);
    m.close(2, 2);
    m.forget(2, 2);
    eq("14 beside what was forgotten", m.change(0, 1, 1, 1, 0, 3), 2);
    eq("14 on the other side", m.change(0, 1, 1, 1, 3, 0), 3);
    fails("14 at it", UNSUPPORTED, () -> m.change(0, 1, 1, 1, 2, 2));
    eq("24 at their times", diffs(m, 0), "1,1:1@3 1,1:1@22 1,1:1@30");
    eq("19 at a time to ask", at(m, 0, 2, 3), "1,1:2");
    eq("19 at the last time", last(m, 0), "1,1:3");
    fails("19 at their time", STATE, () -> m.rows(0, 0, 3));
    eq("33 with them", m.isSound(), true);
    eq("17 once more", m.forget(2, 2), 3);
    eq("24 at joint times then", diffs(m, 0), "1,1:1@22 1,1:1@23 1,1:1@32");
  }

  private static void forgettingTwice() {
    DifferenceMill m = mill(1, 1, 1, 0, 0, 1, 1, 1, 0, 2, 1, 1, 1, 2, 0, 1, 1, 1, 2, 2, 1, 1, 1, 3, 1);
    m.close(3, 3);
    eq("17 first", m.forget(0, 1), 5);
    eq("24 first", diffs(m, 0), "1,1:1@1 1,1:1@2 1,1:1@21 1,1:1@22 1,1:1@31");
    eq("17 second", m.forget(2, 1), 3);
    eq("24 second", diffs(m, 0), "1,1:2@21 1,1:2@22 1,1:1@31");
    fails("19 the first is not behind the second", STATE, () -> m.rows(0, 0, 1));
    fails("19 the latest one counts", STATE, () -> m.rows(0, 1, 9));
    eq("17 third", m.forget(3, 3), 1);
    eq("24 third", diffs(m, 0), "1,1:5@33");
  }

  private static void keptStays() {
    DifferenceMill m = mill(1, 1, 1, 0, 0, 2, 2, 1, 1, 1);
    m.differences(0);
    m.close(5, 5);
    eq("20 closing", kept(m, 2, true), "1,1:1@0 2,2:1@11");
    m.forget(2, 2);
    eq("20 forgetting", kept(m, 2, true), "1,1:1@0 2,2:1@11");
    m.change(0, 3, 3, 1, 9, 9);
    m.map(0, 's', 0);
    eq("20 telling and making", kept(m, 2, true), "1,1:1@0 2,2:1@11");
    eq("32 the same", m.meanWeight(), 1.0);
    eq("30 the same", m.found(), 2L);
    eq("24 now", diffs(m, 0), "1,1:1@22 2,2:1@22 3,3:1@99");
  }

  /** What can be asked still has the rows that it had before, in each kind of view. */
  private static void viewsOfTheForgotten() {
    int[] told = {1, 2, 1, 0, 1, 2, 3, 2, 1, 0, 3, 1, 1, 2, 2, 1, 2, -1, 0, 2, 2, 1, 1, 3, 0, 3, 4, 2, 1, 1,
        4, 4, -1, 0, 0, 3, 1, -1, 3, 3};
    int views = kinds().views();
    for (int v = 0; v < views; v++) {
      DifferenceMill whole = kinds(told);
      DifferenceMill less = kinds(told);
      less.close(2, 1);
      less.forget(1, 1);
      less.forget(2, 1);
      for (int time : new int[] {21, 22, 31, 33, 29, 91, 99}) {
        eq("17 view " + v + " at " + time, at(less, v, time / 10, time % 10),
            at(whole, v, time / 10, time % 10));
      }
      eq("33 view " + v, less.isSound() && whole.isSound(), true);
    }
  }

  private static DifferenceMill kinds(int... told) {
    DifferenceMill m = mill(told);
    int v = m.variable();
    m.map(0, 's', 0);
    m.filter(0, 'o', 0);
    m.sum(0, 2);
    m.negative(0);
    m.join(0, 2, 'p');
    m.group(0, 'c', 0);
    m.group(0, 'm', 0);
    m.group(2, 't', 1);
    m.distinct(0);
    m.recursion(0, v, m.join(m.map(v, 's', 0), 0, 'l'));
    return m;
  }

  private static void errorsOfTheForgotten() {
    DifferenceMill m = mill(0, 1, 2, 0, 0, 0, 2, 3, 1, 0, 0, 1, -2, 0, 1, 0, 3, 1, 4, 4);
    int d = m.map(0, 'd', 0);
    eq("26 before", m.errors(d, 1, 0), 5);
    m.close(1, 1);
    m.forget(1, 1);
    eq("26 taken back", m.errors(d, 1, 1), 3);
    eq("26 later", m.errors(d, 4, 4), 4);
    fails("26 forgotten", STATE, () -> m.errors(d, 1, 0));
  }

  private static void soundAfterwards() {
    DifferenceMill m = kinds(1, 2, 1, 0, 1, 2, 3, 2, 1, 0, 3, 1, 1, 2, 2);
    eq("33 before", m.isSound(), true);
    m.close(9, 9);
    eq("33 closed", m.isSound(), true);
    m.forget(1, 1);
    eq("33 forgotten", m.isSound(), true);
    m.forget(9, 9);
    eq("33 all forgotten", m.isSound(), true);
  }
}
