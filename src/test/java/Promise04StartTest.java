import java.util.function.Supplier;

public final class Promise04StartTest {
  public static void main(String[] args) {
    Cases.run(Promise04StartTest.class);
  }

  private static void refused(String what, Supplier<LotTracker> setup, int lot) {
    Check.refuses(what, Check.STATE, setup, t -> t.start(lot));
  }

  private static void refusedNow(String what, LotTracker x, int lot) {
    Check.due(what, "throws java.lang.IllegalStateException", Check.answer(x, t -> t.start(lot)));
  }

  static void promise4AnswersTheEndOfTheProcessing() {
    LotTracker x = Fab.entered(2);
    x.advance(3);
    Check.due("start at step 0", 13, x.start(0));
    Check.due("state", LotTracker.RUNNING, x.state(0));
    Check.due("step", 0, x.stepOf(0));
    Check.due("size", 2, x.size(0));
    x.advance(10);
    Check.due("start at step 1", 18, x.start(0));
    x.advance(6);
    Check.due("start at step 2", 26, x.start(0));
    x.advance(7);
    Check.due("state behind the route", LotTracker.DONE, x.state(0));
  }

  static void promise4TheShortestAndTheLongestProcessing() {
    Check.due("start of 1 minute", 1, Fab.oneStep(1, 0).start(0));
    Check.due("start of 1000 minutes", 1000, Fab.oneStep(1000, 0).start(0));
    LotTracker x = Fab.oneStep(1000, 0);
    for (int i = 0; i < 500; i++) {
      x.advance(10000);
    }
    Check.due("start after a long time", 5001000, x.start(0));
  }

  static void promise4NoSuchLot() {
    Fab.refusesLotsThatThereAreNot("start", (t, lot) -> t.start(lot));
  }

  static void promise4TheFirstAndTheLastLotAreTaken() {
    Check.due("start of lot 0", 10, Fab.lots(24).start(0));
    Check.due("start of lot 23", 10, Fab.lots(24).start(23));
  }

  static void promise4ALotThatRunsIsRefused() {
    refused("start of the lot that runs", Fab::runningWaiting, 0);
    LotTracker x = Fab.entered(1);
    x.start(0);
    x.advance(9);
    refusedNow("start one minute before its end", x, 0);
    x.advance(1);
    Check.due("start at its end, on the next tool", 15, x.start(0));
  }

  static void promise4ALotThatIsDoneIsRefused() {
    refused("start of a DONE lot", Fab::doneWaitingEnded, 0);
  }

  static void promise4ALotThatIsEndedIsRefused() {
    refused("start of a scrapped lot", Fab::doneWaitingEnded, 2);
    refused("start of a merged lot", Fab.after(() -> Fab.entered(1, 1), t -> t.merge(0, 1)), 0);
  }

  static void promise4ALotThatIsHeldIsRefused() {
    Supplier<LotTracker> held = Fab.after(() -> Fab.entered(1), t -> t.hold(0, true));
    refused("start of a held lot", held, 0);
    LotTracker x = held.get();
    x.hold(0, false);
    Check.due("start once it is let go", 10, x.start(0));
  }

  static void promise4ALotAtItsLimitIsTaken() {
    LotTracker x = Fab.entered(1);
    x.advance(20);
    Check.due("start at the limit of 20", 30, x.start(0));
    LotTracker least = Fab.oneStep(10, 1);
    least.advance(1);
    Check.due("start at the limit of 1", 11, least.start(0));
    LotTracker most = Fab.oneStep(10, 10000);
    most.advance(10000);
    Check.due("start at the limit of 10000", 10010, most.start(0));
  }

  static void promise4ALotThatIsLateByOneMinuteIsRefused() {
    refused("start 1 behind the limit of 20", Fab.after(() -> Fab.entered(1), t -> t.advance(21)), 0);
    refused("start 1 behind the limit of 1", Fab.after(() -> Fab.oneStep(10, 1), t -> t.advance(2)), 0);
    Supplier<LotTracker> most = Fab.after(() -> Fab.oneStep(10, 10000), t -> t.advance(10000));
    refused("start 1 behind the limit of 10000", Fab.after(most, t -> t.advance(1)), 0);
  }

  static void promise4NoLotIsLateWhereThereIsNoLimit() {
    LotTracker x = Fab.oneStep(10, 0);
    x.advance(10000);
    Check.due("start long after", 10010, x.start(0));
  }

  static void promise4ALateLotIsTakenOnceItIsReworked() {
    LotTracker x = Fab.entered(1);
    x.advance(21);
    x.rework(0);
    Check.due("start", 31, x.start(0));
  }

  static void promise4AToolThatProcessesAnotherLotIsRefused() {
    refused("start at the step of the lot that runs", Fab::runningWaiting, 1);
    LotTracker x = Fab.runningWaiting();
    x.advance(9);
    refusedNow("start one minute before the other ends", x, 1);
    x.advance(1);
    Check.due("start when the other ends", 20, x.start(1));
  }

  static void promise4AToolThatIsTakenByAnotherStepIsRefused() {
    LotTracker x = Fab.runningWaiting();
    x.advance(10);
    x.start(0);
    x.start(1);
    x.advance(5);
    Check.due("lot 0 waits at step 2, on the tool of step 0", 2, x.stepOf(0));
    refusedNow("start at step 2 while step 0 runs", x, 0);
    x.advance(5);
    Check.due("start at step 2 once the tool is free", 27, x.start(0));
    x.enter(1);
    refusedNow("start at step 0 while step 2 runs", x, 2);
  }

  static void promise4OtherToolsAreFree() {
    LotTracker x = Fab.runningWaiting();
    x.advance(10);
    Check.due("start on tool 0", 20, x.start(1));
    Check.due("start on tool 1", 15, x.start(0));
  }

  static void promise4AToolIsFreeOnceItsLotIsDone() {
    LotTracker x = Fab.oneStep(10, 0);
    x.enter(1);
    x.start(0);
    x.advance(10);
    Check.due("the first is DONE", LotTracker.DONE, x.state(0));
    Check.due("start of the next", 20, x.start(1));
  }

  static void promise4ARefusedStartTakesNoTool() {
    LotTracker x = Fab.entered(1, 1);
    x.hold(0, true);
    refusedNow("start of the held lot", x, 0);
    Check.due("start of the other", 10, x.start(1));
  }
}
