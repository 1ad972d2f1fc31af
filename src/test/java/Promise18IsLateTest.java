public final class Promise18IsLateTest {
  public static void main(String[] args) {
    Cases.run(Promise18IsLateTest.class);
  }

  private static void lateBehind(int limit) {
    LotTracker x = Fab.oneStep(10, limit);
    Check.due("at once", false, x.isLate(0));
    x.advance(limit);
    Check.due("at the limit of " + limit, false, x.isLate(0));
    x.advance(1);
    Check.due("one minute behind the limit of " + limit, true, x.isLate(0));
    x.advance(10000);
    Check.due("long behind the limit of " + limit, true, x.isLate(0));
  }

  static void promise18MoreMinutesThanTheLimit() {
    lateBehind(20);
  }

  static void promise18TheLeastAndTheMostLimit() {
    lateBehind(1);
    lateBehind(2);
    lateBehind(9999);
    lateBehind(10000);
  }

  static void promise18NeverWithoutALimit() {
    LotTracker x = Fab.oneStep(10, 0);
    Check.due("at once", false, x.isLate(0));
    for (int i = 0; i < 200; i++) {
      x.advance(10000);
    }
    Check.due("after 2000000 minutes", false, x.isLate(0));
  }

  static void promise18NotWhileItRuns() {
    LotTracker x = Fab.oneStep(1000, 1);
    x.advance(1);
    x.start(0);
    x.advance(999);
    Check.due("late", false, x.isLate(0));
    x.advance(1);
    Check.due("late behind the last step", false, x.isLate(0));
  }

  static void promise18NotIfItIsDone() {
    LotTracker x = Fab.doneWaitingEnded();
    x.advance(10000);
    Check.due("the DONE lot", false, x.isLate(0));
    Check.due("the lot that waits", true, x.isLate(1));
  }

  static void promise18NotIfItIsEnded() {
    LotTracker x = Fab.entered(1, 1, 1);
    x.advance(21);
    Check.due("before", true, x.isLate(0));
    x.scrap(0);
    x.merge(1, 2);
    Check.due("scrapped", false, x.isLate(0));
    Check.due("merged", false, x.isLate(1));
    Check.due("the other one", true, x.isLate(2));
  }

  static void promise18AHeldLotCanBeLate() {
    LotTracker x = Fab.entered(1);
    x.hold(0, true);
    x.advance(20);
    Check.due("at the limit", false, x.isLate(0));
    x.advance(1);
    Check.due("one minute later", true, x.isLate(0));
  }

  static void promise18NoMoreOnceItIsReworked() {
    LotTracker x = Fab.entered(1);
    x.advance(21);
    x.rework(0);
    Check.due("at once", false, x.isLate(0));
    x.advance(21);
    Check.due("21 minutes later", true, x.isLate(0));
  }

  static void promise18TheFirstAndTheLastOf24Lots() {
    LotTracker x = Fab.lots(23);
    x.advance(1);
    x.enter(1);
    x.advance(20);
    Check.due("lot 0", true, x.isLate(0));
    Check.due("lot 23", false, x.isLate(23));
    x.advance(1);
    Check.due("lot 23 one minute later", true, x.isLate(23));
  }

  static void promise18NoSuchLot() {
    Fab.refusesLotsThatThereAreNot("isLate", (t, lot) -> t.isLate(lot));
  }
}
