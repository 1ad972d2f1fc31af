public final class Promise25CommonTest {
  public static void main(String[] args) {
    Cases.run(Promise25CommonTest.class);
  }

  /** Each lot from 1 is split off the lot ahead of it, so that the lot 23 has 23 ancestors. */
  private static LotTracker longRow() {
    LotTracker x = Fab.entered(12, 12);
    x.merge(1, 0);
    for (int lot = 2; lot < 24; lot++) {
      x.split(lot == 2 ? 0 : lot - 1, 25 - lot);
    }
    return x;
  }

  static void promise25EachTwoOfAFamily() {
    int[][] want = {
        {0, -1, 0, 0, 0, -1, 0},
        {-1, 1, -1, -1, -1, 1, -1},
        {0, -1, 2, 0, 2, -1, 2},
        {0, -1, 0, 3, 0, -1, 0},
        {0, -1, 2, 0, 4, -1, 4},
        {-1, 1, -1, -1, -1, 5, -1},
        {0, -1, 2, 0, 4, -1, 6}};
    LotTracker x = Fab.family();
    for (int lot = 0; lot < 7; lot++) {
      for (int other = 0; other < 7; other++) {
        Check.due("common " + lot + " " + other, want[lot][other], x.common(lot, other));
      }
    }
  }

  static void promise25ALotWithItselfIsTheLot() {
    LotTracker x = Fab.lots(24);
    Check.due("common 0 0", 0, x.common(0, 0));
    Check.due("common 23 23", 23, x.common(23, 23));
    LotTracker ended = Fab.doneWaitingEnded();
    Check.due("a DONE lot", 0, ended.common(0, 0));
    Check.due("an ENDED lot", 2, ended.common(2, 2));
  }

  static void promise25ItCanBeOneOfBoth() {
    LotTracker x = Fab.entered(4);
    x.split(0, 1);
    Check.due("the parent and the lot", 0, x.common(0, 1));
    Check.due("the lot and the parent", 0, x.common(1, 0));
  }

  static void promise25TwoThatWereSplitOffTheSame() {
    LotTracker x = Fab.entered(4);
    x.split(0, 1);
    x.split(0, 1);
    Check.due("the one and the other", 0, x.common(1, 2));
    Check.due("the other and the one", 0, x.common(2, 1));
  }

  static void promise25TheNearestOfSeveral() {
    LotTracker x = Fab.entered(8);
    x.split(0, 4);
    x.split(1, 1);
    x.split(1, 1);
    Check.due("the parent of both, not its parent", 1, x.common(2, 3));
    Check.due("the parent of both, not its parent, the other way", 1, x.common(3, 2));
  }

  static void promise25NoneOfLotsThatEntered() {
    LotTracker x = Fab.lots(24);
    Check.due("common 0 1", LotTracker.NONE, x.common(0, 1));
    Check.due("common 1 0", LotTracker.NONE, x.common(1, 0));
    Check.due("common 0 23", LotTracker.NONE, x.common(0, 23));
    Check.due("common 23 0", LotTracker.NONE, x.common(23, 0));
  }

  static void promise25TheLongestRowOfAncestors() {
    LotTracker x = longRow();
    Check.due("the first and the last", 0, x.common(0, 23));
    Check.due("the last and the first", 0, x.common(23, 0));
    Check.due("the last two", 22, x.common(23, 22));
    Check.due("two between", 12, x.common(12, 19));
    Check.due("the last and none of them", LotTracker.NONE, x.common(23, 1));
    Check.due("none of them and the last", LotTracker.NONE, x.common(1, 23));
  }

  static void promise25TwoLongRowsOfAncestors() {
    int[] wafers = {6, 5, 5, 4, 4, 3, 3, 2, 2, 1};
    LotTracker x = Fab.entered(12);
    for (int lot = 1; lot <= 10; lot++) {
      x.split(lot <= 2 ? 0 : lot - 2, wafers[lot - 1]);
    }
    Check.due("the ends of both", 0, x.common(9, 10));
    Check.due("the end of one and the beginning of the other", 0, x.common(10, 1));
    Check.due("the end of one and its beginning", 1, x.common(9, 1));
  }

  static void promise25AMergeBringsNothingInCommon() {
    LotTracker x = Fab.entered(2, 2);
    x.split(1, 1);
    x.merge(1, 0);
    Check.due("the lot that was merged and the other one", LotTracker.NONE, x.common(1, 0));
    Check.due("an ENDED lot and what was split off it", 1, x.common(1, 2));
  }

  static void promise25NoSuchLot() {
    Fab.refusesLotsThatThereAreNot("common, the first", (t, lot) -> t.common(lot, 0));
    Fab.refusesLotsThatThereAreNot("common, the second", (t, lot) -> t.common(0, lot));
    Fab.refusesLotsThatThereAreNot("common, both", (t, lot) -> t.common(lot, lot));
    Fab.refusesLotsThatThereAreNot("common, two", (t, lot) -> t.common(lot, lot == -1 ? -2 : -1));
  }
}
