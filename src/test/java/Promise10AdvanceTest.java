public final class Promise10AdvanceTest {
  public static void main(String[] args) {
    Cases.run(Promise10AdvanceTest.class);
  }

  private static void takes(int minutes) {
    LotTracker x = Fab.entered(1);
    Check.due("advance " + minutes, 0, x.advance(minutes));
    Check.due("time", minutes, x.time());
    x.advance(minutes);
    Check.due("time behind another", 2 * minutes, x.time());
  }

  private static void refuses(int minutes) {
    Check.refuses("advance " + minutes, Check.ARGUMENT, Fab::runningWaiting, t -> t.advance(minutes));
    Check.refuses("advance " + minutes + " of a new object", Check.ARGUMENT, LotTracker::new, t -> t.advance(minutes));
  }

  static void promise10OneMinuteIsTheLeast() {
    takes(1);
    takes(2);
    refuses(0);
    refuses(-1);
    refuses(Check.MIN);
  }

  static void promise10TenThousandMinutesAreTheMost() {
    takes(10000);
    takes(9999);
    refuses(10001);
    refuses(Check.MAX);
  }

  static void promise10TheTimeOfALongRun() {
    LotTracker x = Fab.oneStep(10, 1);
    for (int i = 0; i < 500; i++) {
      x.advance(10000);
    }
    Check.due("time", 5000000, x.time());
    Check.due("slack", -4999999, x.slack(0));
  }

  static void promise10OneMinuteBeforeTheEndNothingEnds() {
    LotTracker x = Fab.runningWaiting();
    Check.due("advance", 0, x.advance(9));
    Check.due("state", LotTracker.RUNNING, x.state(0));
    Check.due("step", 0, x.stepOf(0));
  }

  static void promise10WhatEndsByThenEnds() {
    LotTracker x = Fab.runningWaiting();
    Check.due("advance to the end", 1, x.advance(10));
    Check.due("state", LotTracker.WAITING, x.state(0));
    Check.due("step", 1, x.stepOf(0));
    LotTracker y = Fab.runningWaiting();
    Check.due("advance beyond the end", 1, y.advance(11));
    Check.due("step", 1, y.stepOf(0));
    LotTracker z = Fab.runningWaiting();
    z.advance(9);
    Check.due("the last minute", 1, z.advance(1));
  }

  static void promise10TheShortestAndTheLongestProcessing() {
    LotTracker least = Fab.oneStep(1, 0);
    least.start(0);
    Check.due("advance 1", 1, least.advance(1));
    LotTracker most = Fab.oneStep(1000, 0);
    most.start(0);
    Check.due("advance 999", 0, most.advance(999));
    Check.due("advance 1 more", 1, most.advance(1));
  }

  static void promise10ItWaitsSinceItsProcessingEnded() {
    LotTracker x = new LotTracker();
    x.addStep(0, 10, 0, 0);
    x.addStep(1, 5, 50, 0);
    x.enter(1);
    x.start(0);
    x.advance(37);
    Check.due("slack", 23, x.slack(0));
    x.advance(23);
    Check.due("late at the limit", false, x.isLate(0));
    x.advance(1);
    Check.due("late one minute later", true, x.isLate(0));
  }

  static void promise10ALotCanBeLateWhenItsEndIsTold() {
    LotTracker x = new LotTracker();
    x.addStep(0, 10, 0, 0);
    x.addStep(1, 5, 50, 0);
    x.enter(2);
    x.enter(2);
    x.start(0);
    x.advance(60);
    Check.due("late at the limit", false, x.isLate(0));
    x.start(1);
    x.advance(61);
    Check.due("late one minute later", true, x.isLate(1));
    Check.due("slack", -1, x.slack(1));
  }

  static void promise10BehindTheLastStepItIsDone() {
    LotTracker x = Fab.oneStep(10, 20);
    x.start(0);
    Check.due("advance", 1, x.advance(10));
    Check.due("state", LotTracker.DONE, x.state(0));
    Check.due("step", LotTracker.NONE, x.stepOf(0));
    Check.due("size", 1, x.size(0));
    Check.due("it ends but once", 0, x.advance(10));
  }

  static void promise10BehindTheLastStepButOneItWaits() {
    LotTracker x = Fab.steps(12);
    x.enter(1);
    for (int step = 0; step < 11; step++) {
      Check.due("step", step, x.stepOf(0));
      x.start(0);
      Check.due("advance", 1, x.advance(10));
    }
    Check.due("state", LotTracker.WAITING, x.state(0));
    Check.due("step", 11, x.stepOf(0));
    x.start(0);
    Check.due("advance", 1, x.advance(10));
    Check.due("state", LotTracker.DONE, x.state(0));
  }

  static void promise10NothingThatWaitsBeginsToRun() {
    LotTracker x = Fab.runningWaiting();
    Check.due("advance", 1, x.advance(1000));
    Check.due("state of the lot that ran", LotTracker.WAITING, x.state(0));
    Check.due("state of the other lot", LotTracker.WAITING, x.state(1));
    Check.due("nothing runs", 0, x.advance(10000));
  }

  static void promise10SixLotsOnSixToolsAreTheMostThatEnd() {
    LotTracker x = Fab.steps(6);
    for (int lot = 0; lot < 6; lot++) {
      x.enter(1);
      for (int step = 0; step < 5 - lot; step++) {
        x.start(lot);
        x.advance(10);
      }
    }
    for (int lot = 0; lot < 6; lot++) {
      x.start(lot);
    }
    Check.due("advance", 6, x.advance(10));
    Check.due("the one ahead is DONE", LotTracker.DONE, x.state(0));
    for (int lot = 1; lot < 6; lot++) {
      Check.due("step", 6 - lot, x.stepOf(lot));
    }
  }

  static void promise10OnlyWhatEndsByThenIsCounted() {
    LotTracker x = Fab.runningWaiting();
    x.advance(10);
    x.start(0);
    x.start(1);
    Check.due("none by 4 minutes", 0, x.advance(4));
    Check.due("one by 5 minutes", 1, x.advance(1));
    Check.due("one by 9 minutes", 0, x.advance(4));
    Check.due("the other by 10 minutes", 1, x.advance(1));
  }

  static void promise10BothThatEndAtUnlikeTimesAreCounted() {
    LotTracker x = Fab.runningWaiting();
    x.advance(10);
    x.start(0);
    x.start(1);
    Check.due("both by 10 minutes", 2, x.advance(10));
  }
}
