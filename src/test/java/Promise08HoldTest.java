public final class Promise08HoldTest {
  public static void main(String[] args) {
    Cases.run(Promise08HoldTest.class);
  }

  static void promise8AnswersWhetherItWasHeld() {
    LotTracker x = Fab.entered(1);
    Check.due("let go a lot that is not held", false, x.hold(0, false));
    Check.due("hold", false, x.hold(0, true));
    Check.due("hold again", true, x.hold(0, true));
    Check.due("let go", true, x.hold(0, false));
    Check.due("let go again", false, x.hold(0, false));
    Check.due("hold once more", false, x.hold(0, true));
  }

  static void promise8AHeldLotDoesNotBeginToRun() {
    LotTracker x = Fab.entered(1, 1);
    x.hold(0, true);
    Check.due("start", "throws java.lang.IllegalStateException", Check.answer(x, t -> t.start(0)));
    Check.due("the other lot is next", 1, x.nextFor(0));
    x.hold(0, false);
    Check.due("next once it is let go", 0, x.nextFor(0));
    Check.due("start once it is let go", 10, x.start(0));
  }

  static void promise8OtherLotsAreNotHeldByIt() {
    LotTracker x = Fab.lots(24);
    x.hold(0, true);
    x.hold(23, true);
    for (int lot = 0; lot < 24; lot++) {
      Check.due("lot " + lot, lot == 0 || lot == 23, x.hold(lot, false));
    }
  }

  static void promise8TheWaitingOfAHeldLotGoesOn() {
    LotTracker x = Fab.entered(1);
    x.hold(0, true);
    x.advance(21);
    Check.due("slack", -1, x.slack(0));
    Check.due("late", true, x.isLate(0));
  }

  static void promise8ALateLotIsTaken() {
    LotTracker x = Fab.entered(1);
    x.advance(21);
    Check.due("hold", false, x.hold(0, true));
    Check.due("let go", true, x.hold(0, false));
  }

  static void promise8ALotThatRunsIsTaken() {
    LotTracker x = Fab.runningWaiting();
    Check.due("hold", false, x.hold(0, true));
    Check.due("it goes on running", LotTracker.RUNNING, x.state(0));
    Check.due("its processing ends", 1, x.advance(10));
    Check.due("it waits at the next step", 1, x.stepOf(0));
    Check.due("it is held there", LotTracker.NONE, x.nextFor(1));
    Check.due("let go there", true, x.hold(0, false));
    Check.due("start there", 15, x.start(0));
    Check.due("let go while it runs", false, x.hold(0, false));
  }

  static void promise8AHeldLotThatRunsComesToTheEnd() {
    LotTracker x = Fab.oneStep(10, 0);
    x.start(0);
    x.hold(0, true);
    Check.due("advance", 1, x.advance(10));
    Check.due("state", LotTracker.DONE, x.state(0));
  }

  static void promise8NoSuchLot() {
    Fab.refusesLotsThatThereAreNot("hold", (t, lot) -> t.hold(lot, true));
    Fab.refusesLotsThatThereAreNot("letting go", (t, lot) -> t.hold(lot, false));
  }

  static void promise8ALotThatIsDoneIsRefused() {
    Check.refuses("hold of a DONE lot", Check.STATE, Fab::doneWaitingEnded, t -> t.hold(0, true));
    Check.refuses("letting go a DONE lot", Check.STATE, Fab::doneWaitingEnded, t -> t.hold(0, false));
  }

  static void promise8ALotThatIsEndedIsRefused() {
    Check.refuses("hold of an ENDED lot", Check.STATE, Fab::doneWaitingEnded, t -> t.hold(2, true));
    Check.refuses("letting go an ENDED lot", Check.STATE, Fab::doneWaitingEnded, t -> t.hold(2, false));
    LotTracker x = Fab.entered(1);
    x.hold(0, true);
    x.scrap(0);
    Check.due("letting go a lot that was held when it ended", "throws java.lang.IllegalStateException",
        Check.answer(x, t -> t.hold(0, false)));
  }
}
