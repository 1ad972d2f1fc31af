public final class Promise24ParentOfTest {
  public static void main(String[] args) {
    Cases.run(Promise24ParentOfTest.class);
  }

  static void promise24NoneIfItCameByEntering() {
    LotTracker x = Fab.entered(3, 2);
    Check.due("parent of 0", LotTracker.NONE, x.parentOf(0));
    Check.due("parent of 1", LotTracker.NONE, x.parentOf(1));
    x.split(1, 1);
    Check.due("parent of 1 behind its split", LotTracker.NONE, x.parentOf(1));
  }

  static void promise24TheLotThatItWasSplitOff() {
    LotTracker x = Fab.family();
    int[] parents = {-1, -1, 0, 0, 2, 1, 4};
    for (int lot = 0; lot < parents.length; lot++) {
      Check.due("parent of " + lot, parents[lot], x.parentOf(lot));
    }
  }

  static void promise24AMergeChangesNone() {
    LotTracker x = Fab.family();
    x.merge(0, 6);
    x.merge(2, 5);
    Check.due("parent of a lot whose parent is ENDED", 0, x.parentOf(3));
    Check.due("parent of a lot that is ENDED", 0, x.parentOf(2));
    Check.due("parent of the lot that took another in", 1, x.parentOf(5));
    Check.due("parent of a lot that went into its descendant", LotTracker.NONE, x.parentOf(0));
    x.split(6, 1);
    Check.due("parent of a lot that was split off what was merged", 6, x.parentOf(7));
  }

  static void promise24AScrappedLotKeepsIt() {
    LotTracker x = Fab.entered(2);
    x.split(0, 1);
    x.scrap(0);
    Check.due("parent", 0, x.parentOf(1));
  }

  static void promise24ALotThatRunsAndIsDoneKeepsIt() {
    LotTracker x = Fab.oneStep(10, 0);
    x.enter(2);
    x.split(1, 1);
    x.start(2);
    Check.due("parent while it runs", 1, x.parentOf(2));
    x.advance(10);
    Check.due("parent of a DONE lot", 1, x.parentOf(2));
  }

  static void promise24TheFirstAndTheLastOf24Lots() {
    LotTracker x = Fab.lotOf60();
    for (int lot = 5; lot < 24; lot++) {
      x.split(lot == 5 ? 0 : lot - 1, 30 - lot);
    }
    Check.due("parent of 5", 0, x.parentOf(5));
    Check.due("parent of 6", 5, x.parentOf(6));
    Check.due("parent of 23", 22, x.parentOf(23));
  }

  static void promise24NoSuchLot() {
    Fab.refusesLotsThatThereAreNot("parentOf", (t, lot) -> t.parentOf(lot));
  }
}
