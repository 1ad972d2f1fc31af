import java.util.function.Supplier;

public final class Promise09ScrapTest {
  public static void main(String[] args) {
    Cases.run(Promise09ScrapTest.class);
  }

  private static void refused(String what, Supplier<LotTracker> setup, int wafer) {
    Check.refuses("scrap " + what, Check.STATE, setup, t -> t.scrap(wafer));
  }

  static void promise9AnswersHowManyAreLeft() {
    LotTracker x = Fab.entered(12);
    for (int wafer = 11; wafer >= 0; wafer--) {
      Check.due("scrap " + wafer, wafer, x.scrap(wafer));
      Check.due("size", wafer, x.size(0));
      Check.due("lotOf " + wafer, LotTracker.NONE, x.lotOf(wafer));
    }
  }

  static void promise9TheOtherWafersStay() {
    LotTracker x = Fab.entered(3, 2);
    x.scrap(1);
    Check.due("lotOf 0", 0, x.lotOf(0));
    Check.due("lotOf 2", 0, x.lotOf(2));
    Check.due("lotOf 3", 1, x.lotOf(3));
    Check.due("size of the other lot", 2, x.size(1));
    Check.due("wafers", 5, x.wafers());
    Check.due("lots", 2, x.lots());
  }

  static void promise9TheLastWaferButOneLeavesTheLotWaiting() {
    LotTracker x = Fab.entered(2);
    Check.due("scrap", 1, x.scrap(0));
    Check.due("state", LotTracker.WAITING, x.state(0));
    Check.due("step", 0, x.stepOf(0));
    Check.due("it can run", 10, x.start(0));
  }

  static void promise9TheLastWaferEndsTheLot() {
    LotTracker x = Fab.entered(2);
    x.scrap(0);
    Check.due("scrap", 0, x.scrap(1));
    Check.due("state", LotTracker.ENDED, x.state(0));
    Check.due("step", LotTracker.NONE, x.stepOf(0));
    Check.due("slack", 2000000, x.slack(0));
    Check.due("next", LotTracker.NONE, x.nextFor(0));
    Check.due("lots", 1, x.lots());
    Check.due("wafers", 2, x.wafers());
    LotTracker y = Fab.entered(1);
    Check.due("scrap of the only wafer", 0, y.scrap(0));
    Check.due("state", LotTracker.ENDED, y.state(0));
  }

  static void promise9TheFirstAndTheLastOf60Wafers() {
    LotTracker x = Fab.lotOf60();
    Check.due("scrap 0", 59, x.scrap(0));
    Check.due("scrap 59", 58, x.scrap(59));
    Check.due("lotOf 1", 0, x.lotOf(1));
    Check.due("lotOf 58", 0, x.lotOf(58));
  }

  static void promise9ThePathStays() {
    LotTracker x = Fab.entered(2);
    x.split(0, 1);
    x.scrap(0);
    Check.due("path", 2, x.path(0));
    Check.due("path at 0", 0, x.pathAt(0, 0));
    Check.due("path at 1", 1, x.pathAt(0, 1));
  }

  static void promise9AHeldLotIsTaken() {
    LotTracker x = Fab.entered(2);
    x.hold(0, true);
    Check.due("scrap", 1, x.scrap(0));
    Check.due("it is held still", true, x.hold(0, true));
    Check.due("scrap of the last", 0, x.scrap(1));
  }

  static void promise9ALateLotIsTaken() {
    LotTracker x = Fab.entered(2);
    x.advance(21);
    Check.due("scrap", 1, x.scrap(1));
    Check.due("it is late still", true, x.isLate(0));
  }

  static void promise9NoSuchWafer() {
    Fab.refusesWafersThatThereAreNot("scrap", (t, wafer) -> t.scrap(wafer));
  }

  static void promise9AWaferThatWasScrappedIsRefused() {
    refused("again, in a lot that waits", Fab.after(() -> Fab.entered(2), t -> t.scrap(1)), 1);
    refused("again, in a lot that is ENDED", Fab::doneWaitingEnded, 5);
    Supplier<LotTracker> running = Fab.after(Fab.after(() -> Fab.entered(2), t -> t.scrap(1)), t -> t.start(0));
    refused("again, in a lot that runs", running, 1);
  }

  static void promise9ALotThatRunsIsRefused() {
    refused("in a RUNNING lot", Fab::runningWaiting, 0);
    LotTracker x = Fab.runningWaiting();
    Check.due("scrap in a lot beside it", 1, x.scrap(3));
    x.advance(10);
    Check.due("scrap once it waits again", 2, x.scrap(0));
  }

  static void promise9ALotThatIsDoneIsRefused() {
    refused("in a DONE lot", Fab::doneWaitingEnded, 0);
    refused("the last wafer in a DONE lot", Fab::doneWaitingEnded, 2);
  }

  static void promise9AWaferOfALotThatWasMergedCounts() {
    LotTracker x = Fab.entered(2, 3);
    x.merge(0, 1);
    Check.due("scrap", 4, x.scrap(0));
    Check.due("size of the lot that it left before", 0, x.size(0));
  }
}
