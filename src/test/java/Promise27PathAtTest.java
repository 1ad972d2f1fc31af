import java.util.function.Supplier;

public final class Promise27PathAtTest {
  public static void main(String[] args) {
    Cases.run(Promise27PathAtTest.class);
  }

  private static void due(LotTracker x, int wafer, int... want) {
    for (int place = 0; place < want.length; place++) {
      Check.due("pathAt " + wafer + " " + place, want[place], x.pathAt(wafer, place));
    }
    for (int place : new int[] {-1, want.length}) {
      Check.due("pathAt " + wafer + " " + place, "throws java.lang.IndexOutOfBoundsException",
          Check.answer(x, t -> t.pathAt(wafer, place)));
    }
  }

  static void promise27Place0IsTheLotInWhichItEntered() {
    LotTracker x = Fab.entered(3, 2);
    due(x, 0, 0);
    due(x, 2, 0);
    due(x, 3, 1);
    due(x, 4, 1);
  }

  static void promise27OneBehindTheOther() {
    LotTracker x = Fab.entered(3, 2);
    x.split(0, 2);
    due(x, 0, 0, 2);
    due(x, 1, 0, 2);
    due(x, 2, 0);
    x.merge(2, 1);
    due(x, 1, 0, 2, 1);
    due(x, 3, 1);
    x.split(1, 1);
    due(x, 0, 0, 2, 1, 3);
    due(x, 1, 0, 2, 1);
    x.merge(3, 1);
    due(x, 0, 0, 2, 1, 3, 1);
  }

  static void promise27AScrappedWaferKeepsItsPath() {
    LotTracker x = Fab.entered(3, 2);
    x.split(0, 2);
    x.scrap(0);
    x.merge(2, 1);
    due(x, 0, 0, 2);
    due(x, 1, 0, 2, 1);
  }

  static void promise27The47PlacesOfTheLongestPath() {
    int[] want = new int[47];
    for (int lot = 1; lot < 24; lot++) {
      want[2 * lot - 1] = lot;
    }
    LotTracker x = Fab.longestPath();
    due(x, 0, want);
    due(x, 1, 0);
  }

  static void promise27TheFirstAndTheLastOf60Wafers() {
    LotTracker x = Fab.lotOf60();
    due(x, 0, 0);
    due(x, 59, 4, 0);
  }

  static void promise27NoSuchWafer() {
    Fab.refusesWafersThatThereAreNot("pathAt 0", (t, wafer) -> t.pathAt(wafer, 0));
    Fab.refusesWafersThatThereAreNot("pathAt -1", (t, wafer) -> t.pathAt(wafer, -1));
  }

  static void promise27NoSuchPlace() {
    Supplier<LotTracker> setup = Fab.after(() -> Fab.entered(3, 1), t -> t.split(0, 1));
    for (int place : new int[] {-1, 1, 2, 46, 47, Check.MIN, Check.MAX}) {
      Check.refuses("the place " + place + " of a path of 1", Check.INDEX, setup, t -> t.pathAt(1, place));
    }
    for (int place : new int[] {-1, 2, 3, Check.MIN, Check.MAX}) {
      Check.refuses("the place " + place + " of a path of 2", Check.INDEX, setup, t -> t.pathAt(0, place));
    }
    for (int place : new int[] {-1, 47, 48, Check.MIN, Check.MAX}) {
      Check.refuses("the place " + place + " of a path of 47", Check.INDEX, Fab::longestPath, t -> t.pathAt(0, place));
    }
  }
}
