public final class Promise16SizeTest {
  public static void main(String[] args) {
    Cases.run(Promise16SizeTest.class);
  }

  static void promise16From1To12AtItsEntering() {
    for (int wafers = 1; wafers <= 12; wafers++) {
      LotTracker x = Fab.entered(3, wafers);
      Check.due("size", wafers, x.size(1));
      Check.due("size of the lot ahead", 3, x.size(0));
    }
  }

  static void promise16Of60Wafers() {
    Check.due("size", 60, Fab.lotOf60().size(0));
    Check.due("size of a lot that is ENDED", 0, Fab.lotOf60().size(4));
  }

  static void promise16SplitAndMerge() {
    LotTracker x = Fab.entered(5, 2);
    x.split(0, 3);
    Check.due("size of what is left", 2, x.size(0));
    Check.due("size of the new lot", 3, x.size(2));
    x.merge(2, 1);
    Check.due("size of what was merged", 0, x.size(2));
    Check.due("size of the other one", 5, x.size(1));
  }

  static void promise16ScrapDownTo0() {
    LotTracker x = Fab.entered(3);
    for (int wafer = 0; wafer < 3; wafer++) {
      x.scrap(wafer);
      Check.due("size", 2 - wafer, x.size(0));
    }
  }

  static void promise16ItStaysWhileALotRunsAndIsDone() {
    LotTracker x = Fab.entered(4);
    x.scrap(2);
    for (int step = 0; step < 3; step++) {
      x.start(0);
      Check.due("size while it runs", 3, x.size(0));
      x.advance(10);
    }
    Check.due("size of a DONE lot", 3, x.size(0));
  }

  static void promise16TheFirstAndTheLastOf24Lots() {
    LotTracker x = Fab.lots(24);
    Check.due("size of lot 0", 3, x.size(0));
    Check.due("size of lot 23", 1, x.size(23));
    x.merge(0, 23);
    Check.due("size of lot 23 then", 4, x.size(23));
  }

  static void promise16NoSuchLot() {
    Fab.refusesLotsThatThereAreNot("size", (t, lot) -> t.size(lot));
  }
}
