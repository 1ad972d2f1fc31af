public final class Promise15StepOfTest {
  public static void main(String[] args) {
    Cases.run(Promise15StepOfTest.class);
  }

  static void promise15WhereItWaitsAndRunsFromStep0ToStep11() {
    LotTracker x = Fab.steps(12);
    x.enter(1);
    for (int step = 0; step < 12; step++) {
      Check.due("where it waits", step, x.stepOf(0));
      x.start(0);
      Check.due("where it runs", step, x.stepOf(0));
      x.advance(9);
      Check.due("where it runs for one more minute", step, x.stepOf(0));
      x.advance(1);
    }
    Check.due("behind the last step", LotTracker.NONE, x.stepOf(0));
  }

  static void promise15ALotThatIsDoneHasNone() {
    LotTracker x = Fab.oneStep(10, 0);
    x.start(0);
    x.advance(10);
    Check.due("step", -1, x.stepOf(0));
  }

  static void promise15ALotThatIsEndedHasNone() {
    LotTracker x = Fab.entered(1, 1, 1);
    x.scrap(0);
    Check.due("scrapped", -1, x.stepOf(0));
    x.merge(1, 2);
    Check.due("merged", -1, x.stepOf(1));
    Check.due("the other one", 0, x.stepOf(2));
  }

  static void promise15WhereReworkGoes() {
    LotTracker x = Fab.entered(1);
    x.start(0);
    x.advance(10);
    Check.due("before", 1, x.stepOf(0));
    x.rework(0);
    Check.due("then", 0, x.stepOf(0));
  }

  static void promise15TheFirstAndTheLastOf24Lots() {
    LotTracker x = Fab.lots(24);
    x.start(23);
    x.advance(10);
    Check.due("step of lot 0", 0, x.stepOf(0));
    Check.due("step of lot 23", 1, x.stepOf(23));
  }

  static void promise15NoSuchLot() {
    Fab.refusesLotsThatThereAreNot("stepOf", (t, lot) -> t.stepOf(lot));
  }
}
