import java.util.function.Supplier;

public final class Promise03EnterTest {
  public static void main(String[] args) {
    Cases.run(Promise03EnterTest.class);
  }

  static void promise3AnswersTheNumbersInOrder() {
    LotTracker x = Fab.entered();
    for (int lot = 0; lot < 24; lot++) {
      Check.due("enter", lot, x.enter(2));
      Check.due("wafers", 2 * lot + 2, x.wafers());
      Check.due("its first wafer", lot, x.lotOf(2 * lot));
      Check.due("its second wafer", lot, x.lotOf(2 * lot + 1));
    }
  }

  static void promise3ANewLot() {
    LotTracker x = Fab.entered(1, 4);
    Check.due("state", LotTracker.WAITING, x.state(1));
    Check.due("step", 0, x.stepOf(1));
    Check.due("size", 4, x.size(1));
    Check.due("parent", LotTracker.NONE, x.parentOf(1));
    Check.due("reworks", 0, x.reworks(1));
    Check.due("held", false, x.hold(1, true));
    for (int wafer = 1; wafer < 5; wafer++) {
      Check.due("path", 1, x.path(wafer));
      Check.due("path at 0", 1, x.pathAt(wafer, 0));
    }
  }

  static void promise3TheLotWaitsSinceNow() {
    LotTracker x = Fab.entered(1);
    x.advance(7);
    x.enter(1);
    Check.due("slack of a lot that entered at 0", 13, x.slack(0));
    Check.due("slack of a lot that enters now", 20, x.slack(1));
    x.advance(10000);
    x.enter(1);
    Check.due("late from before", true, x.isLate(1));
    Check.due("slack of a lot that enters late", 20, x.slack(2));
  }

  private static void takes(int wafers) {
    LotTracker x = Fab.entered(2);
    Check.due("enter " + wafers, 1, x.enter(wafers));
    Check.due("size", wafers, x.size(1));
    Check.due("wafers", 2 + wafers, x.wafers());
    Check.due("lots", 2, x.lots());
    Check.due("the first wafer", 1, x.lotOf(2));
    Check.due("the last wafer", 1, x.lotOf(1 + wafers));
    Check.due("no wafer more", "throws java.lang.IndexOutOfBoundsException", Check.answer(x, t -> t.lotOf(2 + wafers)));
  }

  private static void refuses(int wafers) {
    Check.refuses("enter " + wafers, Check.ARGUMENT, () -> Fab.entered(2), t -> t.enter(wafers));
    Check.refuses("enter " + wafers + " as the first lot", Check.ARGUMENT, Fab::entered, t -> t.enter(wafers));
  }

  static void promise3OneWaferIsTheLeast() {
    takes(1);
    takes(2);
    refuses(0);
    refuses(-1);
    refuses(Check.MIN);
  }

  static void promise3TwelveWafersAreTheMost() {
    takes(12);
    takes(11);
    refuses(13);
    refuses(Check.MAX);
  }

  static void promise3WithoutAStepItIsRefused() {
    Check.refuses("enter 1", Check.STATE, LotTracker::new, t -> t.enter(1));
    Check.refuses("enter 12", Check.STATE, LotTracker::new, t -> t.enter(12));
    Check.refuses("enter 1 later", Check.STATE, Fab.after(LotTracker::new, t -> t.advance(10)), t -> t.enter(1));
  }

  static void promise3OneStepIsEnough() {
    Check.due("enter", 0, Fab.steps(1).enter(1));
    Check.due("enter with 12 steps", 0, Fab.steps(12).enter(1));
  }

  static void promise3TheLot24thIsTaken() {
    LotTracker x = Fab.lots(23);
    Check.due("enter with 23 lots", 23, x.enter(1));
    Check.due("lots", 24, x.lots());
    Check.due("size", 1, x.size(23));
  }

  static void promise3TheLot25thIsRefused() {
    Check.refuses("enter with 24 lots", Check.STATE, () -> Fab.lots(24), t -> t.enter(1));
    Check.refuses("enter 12 with 24 lots", Check.STATE, () -> Fab.lots(24), t -> t.enter(12));
  }

  static void promise3LotsThatAreEndedCountAmong24() {
    Supplier<LotTracker> merged = Fab.after(() -> Fab.lots(24), t -> t.merge(3, 4));
    Check.refuses("enter with 24 lots, one merged away", Check.STATE, merged, t -> t.enter(1));
    Supplier<LotTracker> scrapped = Fab.after(() -> Fab.lots(24), t -> t.scrap(25));
    Check.refuses("enter with 24 lots, one scrapped", Check.STATE, scrapped, t -> t.enter(1));
  }

  static void promise3LotsThatCameBySplittingCountAmong24() {
    Supplier<LotTracker> split = Fab.after(() -> Fab.lots(23), t -> t.split(0, 1));
    Check.refuses("enter with 24 lots, one split off", Check.STATE, split, t -> t.enter(1));
    LotTracker x = Fab.lots(22);
    x.split(0, 1);
    Check.due("enter with 23 lots, one split off", 23, x.enter(1));
  }

  static void promise3Wafer60thIsTaken() {
    LotTracker x = Fab.entered(12, 12, 12, 12);
    Check.due("enter 12 with 48 wafers", 4, x.enter(12));
    Check.due("wafers", 60, x.wafers());
    Check.due("the last wafer", 4, x.lotOf(59));
    LotTracker y = Fab.entered(12, 12, 12, 12, 11);
    Check.due("enter 1 with 59 wafers", 5, y.enter(1));
    Check.due("wafers", 60, y.wafers());
    Check.due("the last wafer", 5, y.lotOf(59));
  }

  static void promise3Wafer61stIsRefused() {
    Check.refuses("enter 1 with 60 wafers", Check.STATE, () -> Fab.entered(12, 12, 12, 12, 12), t -> t.enter(1));
    Check.refuses("enter 2 with 59 wafers", Check.STATE, () -> Fab.entered(12, 12, 12, 12, 11), t -> t.enter(2));
    Check.refuses("enter 12 with 49 wafers", Check.STATE, () -> Fab.entered(12, 12, 12, 12, 1), t -> t.enter(12));
    Check.refuses("enter 12 with 60 wafers", Check.STATE, Fab::lotOf60, t -> t.enter(12));
    LotTracker x = Fab.entered(12, 12, 12, 12, 9);
    Check.answer(x, t -> t.enter(4));
    Check.due("fewer after a refusal", 5, x.enter(3));
  }

  static void promise3ScrappedWafersCountAmong60() {
    Supplier<LotTracker> scrapped = Fab.after(() -> Fab.entered(12, 12, 12, 12, 12), t -> t.scrap(0));
    Check.refuses("enter 1 with 60 wafers, one scrapped", Check.STATE, scrapped, t -> t.enter(1));
  }

  static void promise3ArgumentIsThrownBeforeState() {
    for (int wafers : new int[] {0, 13, Check.MIN, Check.MAX}) {
      Check.refuses("enter " + wafers + " without a step", Check.ARGUMENT, LotTracker::new, t -> t.enter(wafers));
      Check.refuses("enter " + wafers + " with 24 lots", Check.ARGUMENT, () -> Fab.lots(24), t -> t.enter(wafers));
      Check.refuses("enter " + wafers + " with 60 wafers", Check.ARGUMENT, Fab::lotOf60, t -> t.enter(wafers));
    }
  }
}
