import java.util.function.Supplier;

public final class Promise05ReworkTest {
  public static void main(String[] args) {
    Cases.run(Promise05ReworkTest.class);
  }

  private static void refused(String what, Supplier<LotTracker> setup, int lot) {
    Check.refuses(what, Check.STATE, setup, t -> t.rework(lot));
  }

  private static LotTracker lotAtTheLastStep() {
    LotTracker x = Fab.entered(2);
    x.start(0);
    x.advance(10);
    x.start(0);
    x.advance(5);
    return x;
  }

  private static Supplier<LotTracker> reworked(int times) {
    return () -> {
      LotTracker x = Fab.entered(3, 1);
      for (int i = 0; i < times; i++) {
        x.rework(0);
      }
      return x;
    };
  }

  static void promise5TheLotWaitsAtTheStepOfRework() {
    LotTracker x = lotAtTheLastStep();
    Check.due("rework from the last step", 1, x.rework(0));
    Check.due("state", LotTracker.WAITING, x.state(0));
    Check.due("step", 1, x.stepOf(0));
    Check.due("size", 2, x.size(0));
    Check.due("rework from there", 0, x.rework(0));
    Check.due("step", 0, x.stepOf(0));
    Check.due("it can run there", 25, x.start(0));
  }

  static void promise5ReworkToTheStepItself() {
    LotTracker x = Fab.entered(1);
    Check.due("rework at step 0", 0, x.rework(0));
    Check.due("step", 0, x.stepOf(0));
    Check.due("reworks", 1, x.reworks(0));
  }

  static void promise5ReworkFromTheTwelfthStep() {
    LotTracker x = Fab.steps(11);
    x.addStep(5, 10, 0, 0);
    x.enter(1);
    for (int step = 0; step < 11; step++) {
      x.start(0);
      x.advance(10);
    }
    Check.due("step", 11, x.stepOf(0));
    Check.due("rework", 0, x.rework(0));
  }

  static void promise5ItWaitsThereSinceNow() {
    LotTracker x = Fab.entered(1);
    x.advance(20);
    Check.due("slack before", 0, x.slack(0));
    x.rework(0);
    Check.due("slack then", 20, x.slack(0));
    x.advance(1);
    Check.due("slack one minute later", 19, x.slack(0));
  }

  static void promise5ALateLotIsTaken() {
    LotTracker x = Fab.entered(1);
    x.advance(21);
    Check.due("late", true, x.isLate(0));
    Check.due("rework", 0, x.rework(0));
    Check.due("late then", false, x.isLate(0));
    Check.due("slack then", 20, x.slack(0));
  }

  static void promise5NoSuchLot() {
    Fab.refusesLotsThatThereAreNot("rework", (t, lot) -> t.rework(lot));
  }

  static void promise5TheFirstAndTheLastLotAreTaken() {
    LotTracker x = Fab.lots(24);
    Check.due("rework of lot 0", 0, x.rework(0));
    Check.due("rework of lot 23", 0, x.rework(23));
    Check.due("reworks of lot 0", 1, x.reworks(0));
    Check.due("reworks of lot 22", 0, x.reworks(22));
    Check.due("reworks of lot 23", 1, x.reworks(23));
  }

  static void promise5ALotThatRunsIsRefused() {
    refused("rework of a RUNNING lot", Fab::runningWaiting, 0);
  }

  static void promise5ALotThatIsDoneIsRefused() {
    refused("rework of a DONE lot", Fab::doneWaitingEnded, 0);
  }

  static void promise5ALotThatIsEndedIsRefused() {
    refused("rework of a scrapped lot", Fab::doneWaitingEnded, 2);
    refused("rework of a merged lot", Fab.after(() -> Fab.entered(1, 1), t -> t.merge(0, 1)), 0);
  }

  static void promise5ALotThatIsHeldIsRefused() {
    Supplier<LotTracker> held = Fab.after(() -> Fab.entered(1), t -> t.hold(0, true));
    refused("rework of a held lot", held, 0);
    refused("rework of a held lot later", Fab.after(held, t -> t.advance(3)), 0);
    LotTracker x = held.get();
    x.hold(0, false);
    Check.due("rework once it is let go", 0, x.rework(0));
  }

  static void promise5TheFirstAndTheSecondReworkAreTaken() {
    LotTracker x = Fab.entered(1);
    Check.due("rework", 0, x.rework(0));
    Check.due("reworks", 1, x.reworks(0));
    Check.due("rework", 0, x.rework(0));
    Check.due("reworks", 2, x.reworks(0));
    Check.due("it still runs", 10, x.start(0));
  }

  static void promise5TheThirdReworkIsRefused() {
    refused("a third rework at once", reworked(2), 0);
    refused("a third rework later", Fab.after(reworked(2), t -> t.advance(3)), 0);
    refused("a third rework of a late lot", Fab.after(reworked(2), t -> t.advance(21)), 0);
    LotTracker x = lotAtTheLastStep();
    x.rework(0);
    x.rework(0);
    x.start(0);
    x.advance(10);
    Check.due("a third rework at another step", "throws java.lang.IllegalStateException",
        Check.answer(x, t -> t.rework(0)));
  }

  static void promise5OtherLotsHaveReworksOfTheirOwn() {
    LotTracker x = reworked(2).get();
    Check.due("rework of another lot", 0, x.rework(1));
    Check.due("its reworks", 1, x.reworks(1));
  }

  static void promise5ALotThatWasSplitOffHasHadAsMany() {
    refused("a third rework behind a split", Fab.after(reworked(2), t -> t.split(0, 1)), 2);
    LotTracker x = reworked(1).get();
    x.split(0, 1);
    Check.due("a second rework behind a split", 0, x.rework(2));
    Check.due("reworks of the new lot", 2, x.reworks(2));
    Check.due("reworks of its parent", 1, x.reworks(0));
  }

  static void promise5ALotThatWasMergedHasHadTheMore() {
    refused("a third rework behind a merge", Fab.after(reworked(2), t -> t.merge(0, 1)), 1);
    refused("a third rework behind a merge the other way", Fab.after(reworked(2), t -> t.merge(1, 0)), 0);
  }
}
