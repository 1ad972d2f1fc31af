import java.util.function.Supplier;

/** Promises 23 to 27: lotOf, parentOf, common, path, pathAt. */
public final class AncestryTest {
  private static final Class<IndexOutOfBoundsException> INDEX = IndexOutOfBoundsException.class;
  private static final int MIN = Integer.MIN_VALUE, MAX = Integer.MAX_VALUE;

  public static void main(String[] args) {
    promise23LotOf();
    promise24ParentOf();
    promise25Common();
    promise25LongRowOfAncestors();
    promises26And27Paths();
    promises26And27ThePathThatIsLongest();
    wrongInputs();
    Check.end("AncestryTest");
  }

  private static LotTracker fab(int... entering) {
    LotTracker x = new LotTracker();
    x.addStep(0, 10, 0, 0);
    for (int wafers : entering) {
      x.enter(wafers);
    }
    return x;
  }

  private static void promise23LotOf() {
    LotTracker x = fab(3, 2);
    Check.due("entered", 0, x.lotOf(2));
    Check.due("entered", 1, x.lotOf(3));
    x.split(0, 1);
    Check.due("split off", 2, x.lotOf(0));
    Check.due("left", 0, x.lotOf(1));
    x.merge(2, 1);
    Check.due("merged", 1, x.lotOf(0));
    x.scrap(0);
    Check.due("scrapped", LotTracker.NONE, x.lotOf(0));
    x.start(0);
    x.advance(10);
    Check.due("in a DONE lot", 0, x.lotOf(1));
  }

  /** Lots 0 and 1 enter; 2 and 3 come of 0, 4 of 2, 5 of 1, 6 of 4. */
  private static LotTracker family() {
    LotTracker x = fab(8, 4);
    x.split(0, 4);
    x.split(0, 1);
    x.split(2, 2);
    x.split(1, 1);
    x.split(4, 1);
    return x;
  }

  private static void promise24ParentOf() {
    LotTracker x = family();
    int[] parents = {-1, -1, 0, 0, 2, 1, 4};
    for (int lot = 0; lot < parents.length; lot++) {
      Check.due("parent of " + lot, parents[lot], x.parentOf(lot));
    }
    x.merge(0, 6);
    x.merge(2, 5);
    Check.due("the parent is ENDED", 0, x.parentOf(2));
    Check.due("a merge keeps the parent", 1, x.parentOf(5));
    Check.due("a merge makes no parent", LotTracker.NONE, x.parentOf(0));
    x.split(6, 1);
    Check.due("a split of what was merged", 6, x.parentOf(7));
  }

  private static void promise25Common() {
    int[][] want = {
        {0, -1, 0, 0, 0, -1, 0},
        {-1, 1, -1, -1, -1, 1, -1},
        {0, -1, 2, 0, 2, -1, 2},
        {0, -1, 0, 3, 0, -1, 0},
        {0, -1, 2, 0, 4, -1, 4},
        {-1, 1, -1, -1, -1, 5, -1},
        {0, -1, 2, 0, 4, -1, 6}};
    LotTracker x = family();
    for (int lot = 0; lot < 7; lot++) {
      for (int other = 0; other < 7; other++) {
        Check.due("common " + lot + " " + other, want[lot][other], x.common(lot, other));
      }
    }
    x.merge(1, 0);
    x.merge(5, 0);
    Check.due("a merge brings nothing in common", LotTracker.NONE, x.common(0, 1));
    Check.due("an ENDED lot with its child", 1, x.common(1, 5));
  }

  private static void promise25LongRowOfAncestors() {
    LotTracker x = fab(12, 12, 12);
    x.merge(1, 0);
    x.merge(2, 0);
    for (int lot = 3; lot < 24; lot++) {
      Check.due("split", lot, x.split(lot == 3 ? 0 : lot - 1, 26 - lot));
    }
    Check.due("the first of a long row", 0, x.common(0, 23));
    Check.due("the first of a long row, the other way", 0, x.common(23, 0));
    Check.due("two of a long row", 12, x.common(23, 12));
    Check.due("a long row and another lot", LotTracker.NONE, x.common(23, 1));
    Check.due("another lot and a long row", LotTracker.NONE, x.common(2, 23));
  }

  private static void duePath(LotTracker x, int wafer, int... want) {
    Check.due("path of wafer " + wafer, want.length, x.path(wafer));
    for (int place = 0; place < want.length; place++) {
      Check.due("path of wafer " + wafer + " at " + place, want[place], x.pathAt(wafer, place));
    }
    Check.due("path of wafer " + wafer + " behind its end", "throws java.lang.IndexOutOfBoundsException",
        Check.answer(x, t -> t.pathAt(wafer, want.length)));
  }

  private static void promises26And27Paths() {
    LotTracker x = fab(3, 2);
    duePath(x, 0, 0);
    duePath(x, 4, 1);
    x.split(0, 2);
    duePath(x, 0, 0, 2);
    duePath(x, 1, 0, 2);
    duePath(x, 2, 0);
    x.merge(2, 1);
    duePath(x, 1, 0, 2, 1);
    duePath(x, 3, 1);
    x.split(1, 1);
    duePath(x, 0, 0, 2, 1, 3);
    duePath(x, 1, 0, 2, 1);
    x.merge(3, 1);
    duePath(x, 0, 0, 2, 1, 3, 1);
    x.scrap(0);
    duePath(x, 0, 0, 2, 1, 3, 1);
    x.merge(1, 0);
    duePath(x, 0, 0, 2, 1, 3, 1);
    duePath(x, 1, 0, 2, 1, 0);
    x.rework(0);
    x.start(0);
    x.advance(10);
    duePath(x, 2, 0);
  }

  private static void promises26And27ThePathThatIsLongest() {
    LotTracker x = fab(2);
    int[] want = new int[47];
    for (int lot = 1; lot < 24; lot++) {
      x.split(0, 1);
      x.merge(lot, 0);
      want[2 * lot - 1] = lot;
    }
    duePath(x, 0, want);
    duePath(x, 1, 0);
  }

  private static void wrongInputs() {
    Supplier<LotTracker> setup = () -> {
      LotTracker x = fab(3, 1);
      x.split(0, 1);
      return x;
    };
    for (int wrong : new int[] {-1, 4, MIN, MAX}) {
      Check.refuses("lotOf " + wrong, INDEX, setup, t -> t.lotOf(wrong));
      Check.refuses("path " + wrong, INDEX, setup, t -> t.path(wrong));
      Check.refuses("pathAt of wafer " + wrong, INDEX, setup, t -> t.pathAt(wrong, 0));
    }
    for (int wrong : new int[] {-1, 3, MIN, MAX}) {
      Check.refuses("parentOf " + wrong, INDEX, setup, t -> t.parentOf(wrong));
      Check.refuses("common of " + wrong, INDEX, setup, t -> t.common(wrong, 0));
      Check.refuses("common with " + wrong, INDEX, setup, t -> t.common(0, wrong));
      Check.refuses("common of both " + wrong, INDEX, setup, t -> t.common(wrong, wrong));
    }
    for (int place : new int[] {-1, 1, 47, MIN, MAX}) {
      Check.refuses("pathAt at " + place, INDEX, setup, t -> t.pathAt(1, place));
    }
  }
}
