public final class Promise17SlackTest {
  public static void main(String[] args) {
    Cases.run(Promise17SlackTest.class);
  }

  static void promise17TheLimitLessTheMinutes() {
    LotTracker x = Fab.entered(1);
    Check.due("at once", 20, x.slack(0));
    x.advance(1);
    Check.due("after 1 minute", 19, x.slack(0));
    x.advance(18);
    Check.due("after 19 minutes", 1, x.slack(0));
  }

  static void promise17ItIs0AtTheLimit() {
    LotTracker x = Fab.entered(1);
    x.advance(20);
    Check.due("after 20 minutes", 0, x.slack(0));
  }

  static void promise17ItIsBelow0BehindTheLimit() {
    LotTracker x = Fab.entered(1);
    x.advance(21);
    Check.due("after 21 minutes", -1, x.slack(0));
    x.advance(10000);
    Check.due("long after", -10001, x.slack(0));
  }

  static void promise17TheLeastAndTheMostLimit() {
    LotTracker least = Fab.oneStep(10, 1);
    Check.due("of 1 at once", 1, least.slack(0));
    least.advance(1);
    Check.due("of 1 after 1 minute", 0, least.slack(0));
    LotTracker most = Fab.oneStep(10, 10000);
    Check.due("of 10000 at once", 10000, most.slack(0));
    most.advance(10000);
    Check.due("of 10000 after 10000 minutes", 0, most.slack(0));
    most.advance(1);
    Check.due("of 10000 one minute later", -1, most.slack(0));
  }

  static void promise17ItIs1000000WithoutALimit() {
    LotTracker x = Fab.oneStep(10, 0);
    Check.due("at once", 1000000, x.slack(0));
    x.advance(10000);
    Check.due("long after", 1000000, x.slack(0));
    x.hold(0, true);
    Check.due("held", 1000000, x.slack(0));
  }

  static void promise17ItIs2000000WhileALotRuns() {
    LotTracker x = Fab.runningWaiting();
    Check.due("at once", 2000000, x.slack(0));
    x.advance(9);
    Check.due("one minute before its end", 2000000, x.slack(0));
    x.advance(1);
    Check.due("at its end, without a limit", 1000000, x.slack(0));
    x.start(0);
    Check.due("at a step without a limit", 2000000, x.slack(0));
  }

  static void promise17ItIs2000000IfALotIsDone() {
    LotTracker x = Fab.doneWaitingEnded();
    Check.due("at once", 2000000, x.slack(0));
    x.advance(10000);
    Check.due("long after", 2000000, x.slack(0));
  }

  static void promise17ItIs2000000IfALotIsEnded() {
    LotTracker x = Fab.entered(1, 1, 1);
    x.scrap(0);
    x.merge(1, 2);
    Check.due("scrapped", 2000000, x.slack(0));
    Check.due("merged", 2000000, x.slack(1));
    x.advance(100);
    Check.due("later", 2000000, x.slack(0));
  }

  static void promise17TheStepTellsTheLimit() {
    LotTracker x = Fab.entered(1);
    x.start(0);
    x.advance(10);
    x.start(0);
    x.advance(9);
    Check.due("limit 30 at step 2, 4 minutes behind its processing", 26, x.slack(0));
    x.rework(0);
    Check.due("no limit at step 1", 1000000, x.slack(0));
    x.rework(0);
    Check.due("limit 20 at step 0", 20, x.slack(0));
  }

  static void promise17TheFirstAndTheLastOf24Lots() {
    LotTracker x = Fab.lots(23);
    x.advance(3);
    x.enter(1);
    Check.due("slack of lot 0", 17, x.slack(0));
    Check.due("slack of lot 23", 20, x.slack(23));
  }

  static void promise17NoSuchLot() {
    Fab.refusesLotsThatThereAreNot("slack", (t, lot) -> t.slack(lot));
  }
}
