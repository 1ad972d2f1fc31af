public final class Promise20NextForTest {
  public static void main(String[] args) {
    Cases.run(Promise20NextForTest.class);
  }

  /** Lot 0 waits at step 2 with the slack 30, lot 1 at step 0 with the slack 20, both for tool 0. */
  private static LotTracker atTwoStepsOfOneTool() {
    LotTracker x = Fab.entered(1);
    x.start(0);
    x.advance(10);
    x.start(0);
    x.advance(5);
    x.enter(1);
    return x;
  }

  static void promise20TheLeastSlackOfAllStepsOfTheTool() {
    LotTracker x = atTwoStepsOfOneTool();
    Check.due("20 at step 0 before 30 at step 2", 1, x.nextFor(0));
    x.hold(1, true);
    Check.due("the other one alone", 0, x.nextFor(0));
    x.hold(1, false);
    x.advance(11);
    x.rework(1);
    Check.due("19 at step 2 before 20 at step 0", 0, x.nextFor(0));
  }

  static void promise20OneMinuteLessIsLess() {
    LotTracker x = atTwoStepsOfOneTool();
    x.advance(9);
    x.rework(1);
    Check.due("20 at step 0 before 21 at step 2", 1, x.nextFor(0));
    LotTracker y = Fab.entered(1);
    y.advance(1);
    y.enter(1);
    Check.due("19 before 20", 0, y.nextFor(0));
    y.rework(0);
    y.advance(1);
    y.rework(0);
    Check.due("19 of the higher number before 20", 1, y.nextFor(0));
  }

  static void promise20OfSeveralTheLowestNumber() {
    LotTracker same = atTwoStepsOfOneTool();
    same.advance(10);
    same.rework(1);
    Check.due("20 at both steps", 0, same.nextFor(0));
    LotTracker x = Fab.lots(24);
    for (int lot = 0; lot < 24; lot++) {
      Check.due("of all that are free", lot, x.nextFor(0));
      x.hold(lot, true);
    }
    Check.due("none is free", LotTracker.NONE, x.nextFor(0));
    x.hold(23, false);
    Check.due("the last alone", 23, x.nextFor(0));
    x.hold(11, false);
    Check.due("one of a lower number", 11, x.nextFor(0));
  }

  static void promise20LotsWithoutALimitComeLast() {
    LotTracker x = new LotTracker();
    x.addStep(0, 1, 0, 0);
    x.addStep(0, 1, 10000, 1);
    x.enter(1);
    x.enter(1);
    Check.due("of two without a limit the lowest number", 0, x.nextFor(0));
    x.start(1);
    x.advance(1);
    Check.due("the limit 10000 before none", 1, x.nextFor(0));
    x.hold(1, true);
    Check.due("the one without a limit alone", 0, x.nextFor(0));
  }

  static void promise20ALotAtItsLimitIsTaken() {
    LotTracker x = Fab.entered(1);
    x.advance(20);
    Check.due("slack 0", 0, x.nextFor(0));
    x.enter(1);
    Check.due("slack 0 before 20", 0, x.nextFor(0));
  }

  static void promise20ALateLotIsPassedOver() {
    LotTracker x = Fab.entered(1);
    x.advance(21);
    Check.due("slack -1 alone", LotTracker.NONE, x.nextFor(0));
    x.enter(1);
    Check.due("slack -1 beside 20", 1, x.nextFor(0));
    x.advance(20);
    Check.due("slack 0 of the other", 1, x.nextFor(0));
    x.advance(1);
    Check.due("both late", LotTracker.NONE, x.nextFor(0));
  }

  static void promise20AHeldLotIsPassedOver() {
    LotTracker x = Fab.entered(1);
    x.advance(1);
    x.enter(1);
    x.hold(0, true);
    Check.due("the other one", 1, x.nextFor(0));
    x.hold(1, true);
    Check.due("none", LotTracker.NONE, x.nextFor(0));
    x.hold(0, false);
    Check.due("once it is let go", 0, x.nextFor(0));
  }

  static void promise20NoneIfTheToolProcessesALot() {
    LotTracker x = Fab.runningWaiting();
    Check.due("at once", LotTracker.NONE, x.nextFor(0));
    x.advance(9);
    Check.due("one minute before the end", LotTracker.NONE, x.nextFor(0));
    x.advance(1);
    Check.due("at the end", 1, x.nextFor(0));
    Check.due("the lot that ran is next for another tool", 0, x.nextFor(1));
  }

  static void promise20NoneIfTheToolProcessesALotOfAnotherStep() {
    LotTracker x = atTwoStepsOfOneTool();
    x.start(0);
    Check.due("step 2 runs, a lot waits at step 0", LotTracker.NONE, x.nextFor(0));
    LotTracker y = atTwoStepsOfOneTool();
    y.start(1);
    Check.due("step 0 runs, a lot waits at step 2", LotTracker.NONE, y.nextFor(0));
  }

  static void promise20AnotherToolThatRunsChangesNothing() {
    LotTracker x = Fab.runningWaiting();
    x.advance(10);
    x.start(0);
    Check.due("tool 1 runs", 1, x.nextFor(0));
  }

  static void promise20NoneIfNoLotWaitsForTheTool() {
    for (int tool = 0; tool < 6; tool++) {
      Check.due("without steps", LotTracker.NONE, new LotTracker().nextFor(tool));
      Check.due("without lots", LotTracker.NONE, Fab.steps(12).nextFor(tool));
      Check.due("with a lot for tool 0", tool == 0 ? 0 : LotTracker.NONE, Fab.entered(1).nextFor(tool));
    }
  }

  static void promise20LotsThatAreDoneOrEndedArePassedOver() {
    LotTracker x = Fab.doneWaitingEnded();
    Check.due("the one that waits", 1, x.nextFor(0));
    x.scrap(3);
    x.scrap(4);
    Check.due("none", LotTracker.NONE, x.nextFor(0));
    Check.due("none for tool 1", LotTracker.NONE, x.nextFor(1));
  }

  static void promise20Tool0AndTool5AreTaken() {
    LotTracker x = Fab.steps(6);
    x.enter(1);
    for (int tool = 0; tool < 6; tool++) {
      Check.due("nextFor " + tool, 0, x.nextFor(tool));
      x.start(0);
      Check.due("nextFor " + tool + " that runs", LotTracker.NONE, x.nextFor(tool));
      x.advance(10);
      Check.due("nextFor " + tool + " then", LotTracker.NONE, x.nextFor(tool));
    }
  }

  static void promise20NoSuchTool() {
    Fab.refusesToolsThatThereAreNot("nextFor", (t, tool) -> t.nextFor(tool));
  }
}
