import java.util.function.Supplier;

public final class Promise06SplitTest {
  public static void main(String[] args) {
    Cases.run(Promise06SplitTest.class);
  }

  private static void dueLotOf(LotTracker x, int from, int to, int lot) {
    for (int wafer = from; wafer < to; wafer++) {
      Check.due("lotOf " + wafer, lot, x.lotOf(wafer));
    }
  }

  static void promise6AnswersTheNextNumber() {
    LotTracker x = Fab.entered(12, 3);
    for (int lot = 2; lot < 13; lot++) {
      Check.due("split", lot, x.split(0, 1));
      Check.due("lots", lot + 1, x.lots());
    }
    Check.due("wafers", 15, x.wafers());
    Check.due("what is left", 1, x.size(0));
  }

  static void promise6TheLowestWafersGo() {
    LotTracker x = Fab.entered(2, 5);
    Check.due("split", 2, x.split(1, 2));
    dueLotOf(x, 0, 2, 0);
    dueLotOf(x, 2, 4, 2);
    dueLotOf(x, 4, 7, 1);
    Check.due("size of the new lot", 2, x.size(2));
    Check.due("size of the other one", 3, x.size(1));
    Check.due("size of a third one", 2, x.size(0));
  }

  static void promise6TheLowestWafersOfAMergedLotGo() {
    LotTracker x = Fab.entered(2, 1, 3);
    x.merge(0, 2);
    Check.due("split of the wafers 0, 1, 3, 4, 5", 3, x.split(2, 3));
    dueLotOf(x, 0, 2, 3);
    dueLotOf(x, 2, 3, 1);
    dueLotOf(x, 3, 4, 3);
    dueLotOf(x, 4, 6, 2);
  }

  static void promise6ScrappedWafersStayWhereTheyAre() {
    LotTracker x = Fab.entered(4);
    x.scrap(0);
    x.split(0, 1);
    dueLotOf(x, 0, 1, LotTracker.NONE);
    dueLotOf(x, 1, 2, 1);
    dueLotOf(x, 2, 4, 0);
    Check.due("path of the scrapped wafer", 1, x.path(0));
  }

  static void promise6TheNewLotTakesOverStepMomentHoldAndReworks() {
    LotTracker x = Fab.entered(4);
    x.start(0);
    x.advance(10);
    x.rework(0);
    x.advance(3);
    x.hold(0, true);
    x.split(0, 1);
    Check.due("state", LotTracker.WAITING, x.state(1));
    Check.due("step", 0, x.stepOf(1));
    Check.due("slack", 17, x.slack(1));
    Check.due("reworks", 1, x.reworks(1));
    Check.due("parent", 0, x.parentOf(1));
    Check.due("held", true, x.hold(1, false));
    Check.due("the other one is held still", true, x.hold(0, false));
    Check.due("slack of the other one", 17, x.slack(0));
    Check.due("step of the new lot of a lot at step 1", 1, stepOfANewLotAtStep1());
  }

  private static int stepOfANewLotAtStep1() {
    LotTracker x = Fab.entered(2);
    x.start(0);
    x.advance(10);
    return x.stepOf(x.split(0, 1));
  }

  static void promise6TheNewLotIsFreeIfTheOtherOneIs() {
    LotTracker x = Fab.entered(4);
    x.hold(0, true);
    x.hold(0, false);
    x.split(0, 1);
    Check.due("held", false, x.hold(1, true));
    Check.due("the other one is not held by that", false, x.hold(0, true));
  }

  static void promise6ALateLotIsTaken() {
    LotTracker x = Fab.entered(2);
    x.advance(21);
    Check.due("split", 1, x.split(0, 1));
    Check.due("the new lot is late", true, x.isLate(1));
    Check.due("its slack", -1, x.slack(1));
  }

  static void promise6ANewLotCanBeSplit() {
    LotTracker x = Fab.entered(5);
    x.split(0, 3);
    Check.due("split of the new lot", 2, x.split(1, 2));
    Check.due("its parent", 1, x.parentOf(2));
    dueLotOf(x, 0, 2, 2);
    dueLotOf(x, 2, 3, 1);
    dueLotOf(x, 3, 5, 0);
  }

  private static void takes(Supplier<LotTracker> setup, int wafers) {
    LotTracker x = setup.get();
    int size = x.size(0);
    int lots = x.lots();
    Check.due("split " + wafers + " of " + size, lots, x.split(0, wafers));
    Check.due("size of the new lot", wafers, x.size(lots));
    Check.due("size of the other one", size - wafers, x.size(0));
    dueLotOf(x, 0, wafers, lots);
    dueLotOf(x, wafers, size, 0);
    Check.due("state of the other one", LotTracker.WAITING, x.state(0));
  }

  private static void refuses(Supplier<LotTracker> setup, int wafers) {
    Check.refuses("split " + wafers, Check.ARGUMENT, setup, t -> t.split(0, wafers));
  }

  static void promise6OneWaferIsTheLeast() {
    takes(() -> Fab.entered(2), 1);
    takes(() -> Fab.entered(12), 1);
    takes(Fab::lotOf60, 1);
    refuses(() -> Fab.entered(2), 0);
    refuses(() -> Fab.entered(12), 0);
    refuses(() -> Fab.entered(12), -1);
    refuses(() -> Fab.entered(12), Check.MIN);
  }

  static void promise6AllButOneWaferAreTheMost() {
    takes(() -> Fab.entered(3), 2);
    takes(() -> Fab.entered(12), 11);
    takes(Fab::lotOf60, 59);
    refuses(() -> Fab.entered(2), 2);
    refuses(() -> Fab.entered(12), 12);
    refuses(() -> Fab.entered(12), 13);
    refuses(Fab::lotOf60, 60);
    refuses(() -> Fab.entered(12), Check.MAX);
  }

  static void promise6TheMostIsOfTheLotAsItIsNow() {
    Supplier<LotTracker> scrapped = Fab.after(() -> Fab.entered(4), t -> t.scrap(3));
    takes(scrapped, 2);
    refuses(scrapped, 3);
    Supplier<LotTracker> split = Fab.after(() -> Fab.entered(4), t -> t.split(0, 1));
    Check.refuses("split 3 of the 3 that are left", Check.ARGUMENT, split, t -> t.split(0, 3));
    Check.due("split 2 of the 3 that are left", 2, split.get().split(0, 2));
    Supplier<LotTracker> merged = Fab.after(() -> Fab.entered(2, 1), t -> t.merge(1, 0));
    takes(merged, 2);
    refuses(merged, 3);
  }

  static void promise6ALotOfOneWaferIsRefused() {
    refuses(() -> Fab.entered(1), 0);
    refuses(() -> Fab.entered(1), 1);
    refuses(() -> Fab.entered(1), 2);
  }

  static void promise6NoSuchLot() {
    Fab.refusesLotsThatThereAreNot("split", (t, lot) -> t.split(lot, 1));
  }

  static void promise6TheLastLotIsTaken() {
    LotTracker x = Fab.entered();
    for (int lot = 0; lot < 23; lot++) {
      x.enter(2);
    }
    Check.due("split of lot 22", 23, x.split(22, 1));
    Check.due("its wafer", 23, x.lotOf(44));
  }

  static void promise6ALotThatRunsIsRefused() {
    Check.refuses("split of a RUNNING lot", Check.STATE, Fab::runningWaiting, t -> t.split(0, 1));
    Check.refuses("split of a RUNNING lot", Check.STATE, Fab::runningWaiting, t -> t.split(0, 2));
  }

  static void promise6ALotThatIsDoneIsRefused() {
    Check.refuses("split of a DONE lot", Check.STATE, Fab::doneWaitingEnded, t -> t.split(0, 1));
  }

  static void promise6ALotThatIsEndedHasNoWafersToSplit() {
    for (int wafers = -1; wafers < 3; wafers++) {
      int count = wafers;
      Check.refuses("split of an ENDED lot", Check.ARGUMENT, Fab::doneWaitingEnded, t -> t.split(2, count));
    }
  }

  static void promise6ALotThatIsHeldIsTaken() {
    takes(Fab.after(() -> Fab.entered(3), t -> t.hold(0, true)), 1);
  }

  static void promise6TheLot24thIsTaken() {
    Check.due("split with 23 lots", 23, Fab.lots(23).split(0, 1));
  }

  static void promise6TheLot25thIsRefused() {
    Check.refuses("split with 24 lots", Check.STATE, () -> Fab.lots(24), t -> t.split(0, 1));
    Check.refuses("split with 24 lots", Check.STATE, () -> Fab.lots(24), t -> t.split(0, 2));
    Supplier<LotTracker> split = Fab.after(() -> Fab.lots(23), t -> t.split(0, 1));
    Check.refuses("split with 24 lots, one split off", Check.STATE, split, t -> t.split(0, 1));
    Supplier<LotTracker> ended = Fab.after(() -> Fab.lots(24), t -> t.merge(1, 2));
    Check.refuses("split with 24 lots, one ENDED", Check.STATE, ended, t -> t.split(0, 1));
  }

  static void promise6IndexIsThrownBeforeArgument() {
    for (int wafers : new int[] {0, -1, 2, Check.MIN, Check.MAX}) {
      Check.refuses("split of lot -1", Check.INDEX, () -> Fab.entered(2), t -> t.split(-1, wafers));
      Check.refuses("split of lot 1", Check.INDEX, () -> Fab.entered(2), t -> t.split(1, wafers));
    }
  }

  static void promise6IndexIsThrownBeforeState() {
    Check.refuses("split of lot 24 with 24 lots", Check.INDEX, () -> Fab.lots(24), t -> t.split(24, 1));
  }

  static void promise6ArgumentIsThrownBeforeState() {
    for (int wafers : new int[] {0, 3, Check.MIN, Check.MAX}) {
      Check.refuses("split of a RUNNING lot", Check.ARGUMENT, Fab::runningWaiting, t -> t.split(0, wafers));
      Check.refuses("split of a DONE lot", Check.ARGUMENT, Fab::doneWaitingEnded, t -> t.split(0, wafers));
      Check.refuses("split with 24 lots", Check.ARGUMENT, () -> Fab.lots(24), t -> t.split(0, wafers));
    }
    Check.refuses("split of a lot of 1 with 24 lots", Check.ARGUMENT, () -> Fab.lots(24), t -> t.split(23, 1));
  }
}
