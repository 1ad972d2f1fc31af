public final class Promise14StateTest {
  public static void main(String[] args) {
    Cases.run(Promise14StateTest.class);
  }

  static void promise14TheStatesHaveTheNumbers0To3() {
    Check.due("WAITING", 0, LotTracker.WAITING);
    Check.due("RUNNING", 1, LotTracker.RUNNING);
    Check.due("DONE", 2, LotTracker.DONE);
    Check.due("ENDED", 3, LotTracker.ENDED);
  }

  static void promise14OnItsWayThroughTheRoute() {
    LotTracker x = Fab.entered(1);
    for (int step = 0; step < 3; step++) {
      Check.due("ahead of its processing", 0, x.state(0));
      x.start(0);
      Check.due("in its processing", 1, x.state(0));
      x.advance(10);
    }
    Check.due("behind the last step", 2, x.state(0));
    x.advance(10000);
    Check.due("long after", 2, x.state(0));
  }

  static void promise14OneMinuteBeforeTheEndAndAtTheEnd() {
    LotTracker x = Fab.oneStep(10, 0);
    x.start(0);
    x.advance(9);
    Check.due("one minute before", 1, x.state(0));
    x.advance(1);
    Check.due("at the end", 2, x.state(0));
  }

  static void promise14ALotIsEndedByTheScrapOfItsLastWafer() {
    LotTracker x = Fab.entered(2);
    x.scrap(1);
    Check.due("with one wafer", 0, x.state(0));
    x.scrap(0);
    Check.due("with none", 3, x.state(0));
  }

  static void promise14ALotIsEndedByAMerge() {
    LotTracker x = Fab.entered(2, 1);
    x.merge(0, 1);
    Check.due("the first lot", 3, x.state(0));
    Check.due("the other lot", 0, x.state(1));
  }

  static void promise14HeldAndLateLotsWait() {
    LotTracker x = Fab.entered(2);
    x.hold(0, true);
    x.advance(21);
    Check.due("state", 0, x.state(0));
  }

  static void promise14TheFirstAndTheLastOf24Lots() {
    LotTracker x = Fab.lots(24);
    x.start(0);
    x.scrap(25);
    Check.due("state of lot 0", 1, x.state(0));
    Check.due("state of lot 22", 0, x.state(22));
    Check.due("state of lot 23", 3, x.state(23));
  }

  static void promise14NoSuchLot() {
    Fab.refusesLotsThatThereAreNot("state", (t, lot) -> t.state(lot));
  }
}
