public final class Promise26PathTest {
  public static void main(String[] args) {
    Cases.run(Promise26PathTest.class);
  }

  static void promise26ItIs1AtTheEntering() {
    LotTracker x = Fab.entered(12, 12, 12, 12, 12);
    for (int wafer = 0; wafer < 60; wafer++) {
      Check.due("path " + wafer, 1, x.path(wafer));
    }
  }

  static void promise26EachSplitThatMovesItAddsOne() {
    LotTracker x = Fab.entered(3);
    x.split(0, 2);
    Check.due("path of the first that moved", 2, x.path(0));
    Check.due("path of the last that moved", 2, x.path(1));
    Check.due("path of the one that stayed", 1, x.path(2));
  }

  static void promise26EachMergeThatMovesItAddsOne() {
    LotTracker x = Fab.entered(2, 1);
    x.merge(0, 1);
    Check.due("path of the first that moved", 2, x.path(0));
    Check.due("path of the last that moved", 2, x.path(1));
    Check.due("path of the one that stayed", 1, x.path(2));
  }

  static void promise26ALotThatItComesBackToCountsAgain() {
    LotTracker x = Fab.entered(2);
    x.split(0, 1);
    x.merge(1, 0);
    Check.due("path", 3, x.path(0));
  }

  static void promise26NothingElseAddsToIt() {
    LotTracker x = Fab.entered(3);
    x.hold(0, true);
    x.hold(0, false);
    x.rework(0);
    x.scrap(0);
    for (int step = 0; step < 3; step++) {
      x.start(0);
      x.advance(10);
    }
    Check.due("path of a wafer in a DONE lot", 1, x.path(1));
    Check.due("path of a scrapped wafer", 1, x.path(0));
  }

  static void promise26AScrappedWaferKeepsIt() {
    LotTracker x = Fab.entered(3);
    x.split(0, 2);
    x.scrap(0);
    x.merge(1, 0);
    Check.due("path of the scrapped wafer", 2, x.path(0));
    Check.due("path of the one beside it", 3, x.path(1));
  }

  static void promise26The47LotsOfTheLongestPath() {
    LotTracker x = Fab.longestPath();
    Check.due("path", 47, x.path(0));
    Check.due("path of the other wafer", 1, x.path(1));
  }

  static void promise26TheFirstAndTheLastOf60Wafers() {
    LotTracker x = Fab.lotOf60();
    Check.due("path 0", 1, x.path(0));
    Check.due("path 59", 2, x.path(59));
  }

  static void promise26NoSuchWafer() {
    Fab.refusesWafersThatThereAreNot("path", (t, wafer) -> t.path(wafer));
  }
}
