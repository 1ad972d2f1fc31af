import java.util.function.Supplier;

public final class Promise07MergeTest {
  public static void main(String[] args) {
    Cases.run(Promise07MergeTest.class);
  }

  private static void refused(String what, Supplier<LotTracker> setup, int lot, int into) {
    Check.refuses("merge of " + what, Check.STATE, setup, t -> t.merge(lot, into));
    Check.refuses("merge into " + what, Check.STATE, setup, t -> t.merge(into, lot));
  }

  private static Supplier<LotTracker> twoLots() {
    return () -> Fab.entered(1, 1);
  }

  static void promise7AllWafersGoIntoTheOtherLot() {
    LotTracker x = Fab.entered(2, 3, 1);
    Check.due("merge", 5, x.merge(0, 1));
    for (int wafer = 0; wafer < 5; wafer++) {
      Check.due("lotOf " + wafer, 1, x.lotOf(wafer));
    }
    Check.due("lotOf another", 2, x.lotOf(5));
    Check.due("size of the other lot", 5, x.size(1));
    Check.due("its state", LotTracker.WAITING, x.state(1));
    Check.due("its step", 0, x.stepOf(1));
    Check.due("lots", 3, x.lots());
    Check.due("wafers", 6, x.wafers());
  }

  static void promise7TheFirstLotIsEnded() {
    LotTracker x = Fab.entered(2, 3);
    x.merge(0, 1);
    Check.due("state", LotTracker.ENDED, x.state(0));
    Check.due("size", 0, x.size(0));
    Check.due("step", LotTracker.NONE, x.stepOf(0));
    Check.due("slack", 2000000, x.slack(0));
  }

  static void promise7IntoTheLowerAndTheHigherNumber() {
    Check.due("merge of the first into the last", 4, Fab.lots(24).merge(0, 23));
    Check.due("merge of the last into the first", 4, Fab.lots(24).merge(23, 0));
  }

  static void promise7OneWaferIntoOneIsTheLeast() {
    Check.due("merge", 2, twoLots().get().merge(0, 1));
  }

  static void promise7SixtyWafersInOneLotAreTheMost() {
    LotTracker x = Fab.entered(12, 12, 12, 12, 12);
    for (int lot = 1; lot < 5; lot++) {
      Check.due("merge", 12 * (lot + 1), x.merge(lot, 0));
    }
    Check.due("size", 60, x.size(0));
    Check.due("the last wafer", 0, x.lotOf(59));
  }

  static void promise7ScrappedWafersStayWhereTheyAre() {
    LotTracker x = Fab.entered(3, 1);
    x.scrap(1);
    Check.due("merge", 3, x.merge(0, 1));
    Check.due("lot of the scrapped wafer", LotTracker.NONE, x.lotOf(1));
    Check.due("its path", 1, x.path(1));
  }

  static void promise7ItWaitsSinceTheEarlierMoment() {
    for (int into = 0; into < 2; into++) {
      LotTracker x = Fab.entered(1);
      x.advance(5);
      x.enter(1);
      x.advance(2);
      x.merge(1 - into, into);
      Check.due("slack of the lot " + into, 13, x.slack(into));
    }
    LotTracker same = twoLots().get();
    same.advance(4);
    same.merge(0, 1);
    Check.due("slack if both moments are the same", 16, same.slack(1));
  }

  static void promise7ItHasHadTheMoreReworks() {
    for (int into = 0; into < 2; into++) {
      LotTracker x = twoLots().get();
      x.rework(0);
      x.rework(0);
      x.rework(1);
      x.merge(1 - into, into);
      Check.due("reworks of the lot " + into, 2, x.reworks(into));
    }
    LotTracker same = twoLots().get();
    same.rework(0);
    same.rework(1);
    same.merge(0, 1);
    Check.due("reworks if both have had as many", 1, same.reworks(1));
    LotTracker none = twoLots().get();
    none.merge(0, 1);
    Check.due("reworks if both have had none", 0, none.reworks(1));
  }

  static void promise7LateLotsAreTaken() {
    LotTracker x = Fab.entered(1);
    x.advance(21);
    x.enter(1);
    Check.due("merge of a late lot", 2, x.merge(0, 1));
    Check.due("the other one is late then", true, x.isLate(1));
    x.enter(1);
    Check.due("merge into a late lot", 3, x.merge(2, 1));
    Check.due("slack", -1, x.slack(1));
  }

  static void promise7ParentsStayAsTheyAre() {
    LotTracker x = Fab.entered(2, 2);
    x.split(0, 1);
    x.merge(2, 1);
    Check.due("parent of the lot that was merged", 0, x.parentOf(2));
    Check.due("parent of the other one", LotTracker.NONE, x.parentOf(1));
    x.split(1, 1);
    x.merge(0, 3);
    Check.due("parent of a lot that was split off", 1, x.parentOf(3));
  }

  static void promise7NoSuchLot() {
    Fab.refusesLotsThatThereAreNot("merge", (t, lot) -> t.merge(lot, 0));
    Fab.refusesLotsThatThereAreNot("merge into", (t, lot) -> t.merge(0, lot));
    Fab.refusesLotsThatThereAreNot("merge of both", (t, lot) -> t.merge(lot, lot));
    Fab.refusesLotsThatThereAreNot("merge of two", (t, lot) -> t.merge(lot, lot == -1 ? -2 : -1));
  }

  static void promise7ALotIntoItselfIsRefused() {
    Check.refuses("merge of the first into itself", Check.ARGUMENT, () -> Fab.lots(24), t -> t.merge(0, 0));
    Check.refuses("merge of the last into itself", Check.ARGUMENT, () -> Fab.lots(24), t -> t.merge(23, 23));
  }

  static void promise7ALotThatRunsIsRefused() {
    refused("a RUNNING lot", Fab::runningWaiting, 0, 1);
  }

  static void promise7ALotThatIsDoneIsRefused() {
    refused("a DONE lot", Fab::doneWaitingEnded, 0, 1);
  }

  static void promise7ALotThatIsEndedIsRefused() {
    refused("an ENDED lot", Fab::doneWaitingEnded, 2, 1);
    refused("a merged lot", Fab.after(() -> Fab.entered(1, 1, 1), t -> t.merge(0, 1)), 0, 2);
    refused("a merged lot back", Fab.after(twoLots(), t -> t.merge(0, 1)), 0, 1);
  }

  static void promise7TwoLotsThatHaveLeftAreRefused() {
    refused("a DONE lot and an ENDED one", Fab::doneWaitingEnded, 0, 2);
    Supplier<LotTracker> ended = Fab.after(Fab.after(twoLots(), t -> t.scrap(0)), t -> t.scrap(1));
    refused("two ENDED lots", ended, 0, 1);
    refused("two DONE lots", Promise07MergeTest::twoDone, 0, 1);
  }

  private static LotTracker twoDone() {
    LotTracker x = Fab.oneStep(10, 0);
    x.enter(1);
    for (int lot = 0; lot < 2; lot++) {
      x.start(lot);
      x.advance(10);
    }
    return x;
  }

  static void promise7ALotThatIsHeldIsRefused() {
    Supplier<LotTracker> held = Fab.after(twoLots(), t -> t.hold(0, true));
    refused("a held lot", held, 0, 1);
    refused("two held lots", Fab.after(held, t -> t.hold(1, true)), 0, 1);
    LotTracker x = held.get();
    x.hold(0, false);
    Check.due("merge once it is let go", 2, x.merge(0, 1));
  }

  static void promise7LotsAtUnlikeStepsAreRefused() {
    Supplier<LotTracker> unlike = Fab.after(Fab::runningWaiting, t -> t.advance(10));
    refused("lots at the steps 1 and 0", unlike, 0, 1);
    refused("lots at the steps 2 and 0, of one tool", Promise07MergeTest::lotsAtTheSteps2And0, 0, 1);
  }

  private static LotTracker lotsAtTheSteps2And0() {
    LotTracker x = Fab.entered(1, 1);
    x.start(0);
    x.advance(10);
    x.start(0);
    x.advance(5);
    return x;
  }

  static void promise7LotsAtOneStepBehindTheFirstAreTaken() {
    LotTracker x = Fab.runningWaiting();
    x.advance(10);
    x.start(1);
    x.advance(10);
    Check.due("both at step 1", x.stepOf(0), x.stepOf(1));
    Check.due("merge", 5, x.merge(0, 1));
    Check.due("step", 1, x.stepOf(1));
  }

  static void promise7IndexIsThrownBeforeArgument() {
    for (int lot : new int[] {-1, 2, Check.MIN, Check.MAX}) {
      Check.refuses("merge of none into itself", Check.INDEX, twoLots(), t -> t.merge(lot, lot));
    }
  }

  static void promise7IndexIsThrownBeforeState() {
    Check.refuses("merge of a DONE lot into none", Check.INDEX, Fab::doneWaitingEnded, t -> t.merge(0, 3));
    Check.refuses("merge of an ENDED lot into none", Check.INDEX, Fab::doneWaitingEnded, t -> t.merge(2, -1));
    Check.refuses("merge of none into a RUNNING lot", Check.INDEX, Fab::runningWaiting, t -> t.merge(2, 0));
    Check.refuses("merge of a held lot into none", Check.INDEX, Fab.after(twoLots(), t -> t.hold(0, true)),
        t -> t.merge(0, 2));
  }

  static void promise7ArgumentIsThrownBeforeState() {
    Check.refuses("merge of a RUNNING lot into itself", Check.ARGUMENT, Fab::runningWaiting, t -> t.merge(0, 0));
    Check.refuses("merge of a DONE lot into itself", Check.ARGUMENT, Fab::doneWaitingEnded, t -> t.merge(0, 0));
    Check.refuses("merge of an ENDED lot into itself", Check.ARGUMENT, Fab::doneWaitingEnded, t -> t.merge(2, 2));
    Check.refuses("merge of a held lot into itself", Check.ARGUMENT, Fab.after(twoLots(), t -> t.hold(0, true)),
        t -> t.merge(0, 0));
  }
}
