public final class Promise13WafersTest {
  public static void main(String[] args) {
    Cases.run(Promise13WafersTest.class);
  }

  static void promise13ThereAre0AtFirst() {
    Check.due("wafers of a new object", 0, new LotTracker().wafers());
    Check.due("wafers with 12 steps", 0, Fab.steps(12).wafers());
  }

  static void promise13ThereAre60AtMost() {
    LotTracker x = Fab.entered();
    for (int lot = 0; lot < 20; lot++) {
      x.enter(3);
      Check.due("wafers", 3 * lot + 3, x.wafers());
    }
    Check.answer(x, t -> t.enter(1));
    Check.due("wafers behind a refusal", 60, x.wafers());
  }

  static void promise13TheyAreAddedUp() {
    LotTracker x = Fab.entered(1);
    Check.due("wafers", 1, x.wafers());
    x.enter(12);
    Check.due("wafers", 13, x.wafers());
  }

  static void promise13SplitAndMergeMakeNone() {
    LotTracker x = Fab.entered(3, 2);
    x.split(0, 1);
    x.merge(2, 1);
    Check.due("wafers", 5, x.wafers());
  }

  static void promise13WafersThatWereCount() {
    LotTracker x = Fab.entered(3);
    for (int wafer = 0; wafer < 3; wafer++) {
      x.scrap(wafer);
      Check.due("wafers", 3, x.wafers());
    }
    Check.due("wafers with a lot that is DONE", 6, Fab.doneWaitingEnded().wafers());
  }
}
