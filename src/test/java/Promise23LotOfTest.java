public final class Promise23LotOfTest {
  public static void main(String[] args) {
    Cases.run(Promise23LotOfTest.class);
  }

  private static void due(LotTracker x, int... want) {
    Check.due("wafers", want.length, x.wafers());
    for (int wafer = 0; wafer < want.length; wafer++) {
      Check.due("lotOf " + wafer, want[wafer], x.lotOf(wafer));
    }
  }

  static void promise23WhereTheyEntered() {
    due(Fab.entered(1, 3, 2), 0, 1, 1, 1, 2, 2);
  }

  static void promise23WhereSplitAndMergePutThem() {
    LotTracker x = Fab.entered(3, 2);
    x.split(0, 2);
    due(x, 2, 2, 0, 1, 1);
    x.merge(2, 1);
    due(x, 1, 1, 0, 1, 1);
    x.merge(1, 0);
    due(x, 0, 0, 0, 0, 0);
  }

  static void promise23NoneIfScrapped() {
    LotTracker x = Fab.entered(2, 1);
    x.scrap(0);
    due(x, LotTracker.NONE, 0, 1);
    x.scrap(1);
    due(x, LotTracker.NONE, LotTracker.NONE, 1);
    x.scrap(2);
    due(x, LotTracker.NONE, LotTracker.NONE, LotTracker.NONE);
  }

  static void promise23WhileTheLotRunsAndIsDone() {
    LotTracker x = Fab.oneStep(10, 0);
    x.start(0);
    due(x, 0);
    x.advance(10);
    due(x, 0);
  }

  static void promise23TheFirstAndTheLastOf60() {
    LotTracker x = Fab.entered(12, 12, 12, 12, 12);
    Check.due("lotOf 0", 0, x.lotOf(0));
    Check.due("lotOf 11", 0, x.lotOf(11));
    Check.due("lotOf 12", 1, x.lotOf(12));
    Check.due("lotOf 47", 3, x.lotOf(47));
    Check.due("lotOf 48", 4, x.lotOf(48));
    Check.due("lotOf 59", 4, x.lotOf(59));
    x.scrap(59);
    Check.due("lotOf 59 that is scrapped", LotTracker.NONE, x.lotOf(59));
  }

  static void promise23InTheLastOf24Lots() {
    Check.due("lotOf 25", 23, Fab.lots(24).lotOf(25));
  }

  static void promise23NoSuchWafer() {
    Fab.refusesWafersThatThereAreNot("lotOf", (t, wafer) -> t.lotOf(wafer));
  }
}
