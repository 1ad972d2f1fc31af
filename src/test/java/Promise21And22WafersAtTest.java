public final class Promise21And22WafersAtTest {
  public static void main(String[] args) {
    Cases.run(Promise21And22WafersAtTest.class);
  }

  private static void due(LotTracker x, int... want) {
    for (int step = 0; step < want.length; step++) {
      Check.due("wafersAt " + step, want[step], x.wafersAt(step));
      Check.due("wafersAtByWafers " + step, want[step], x.wafersAtByWafers(step));
    }
  }

  static void promise21And22NoneWithoutLots() {
    due(Fab.steps(12), 0, 0, 0, 0, 0, 0, 0, 0, 0, 0, 0, 0);
  }

  static void promise21And22LotsThatWaitAndRun() {
    LotTracker x = Fab.entered(4, 3);
    due(x, 7, 0, 0);
    x.start(0);
    due(x, 7, 0, 0);
    x.advance(9);
    due(x, 7, 0, 0);
    x.advance(1);
    due(x, 3, 4, 0);
    x.start(0);
    due(x, 3, 4, 0);
    x.advance(5);
    due(x, 3, 0, 4);
    x.rework(0);
    due(x, 3, 4, 0);
  }

  static void promise21And22HeldAndLateLotsCount() {
    LotTracker x = Fab.entered(4);
    x.hold(0, true);
    x.advance(21);
    due(x, 4, 0, 0);
  }

  static void promise21And22LotsThatAreDoneDoNotCount() {
    LotTracker x = Fab.oneStep(10, 0);
    x.start(0);
    x.advance(9);
    due(x, 1);
    x.advance(1);
    due(x, 0);
  }

  static void promise21And22ScrappedWafersDoNotCount() {
    LotTracker x = Fab.entered(2);
    x.scrap(0);
    due(x, 1, 0, 0);
    x.scrap(1);
    due(x, 0, 0, 0);
  }

  static void promise21And22SplitAndMergeChangeNothing() {
    LotTracker x = Fab.entered(4, 2);
    x.split(0, 1);
    due(x, 6, 0, 0);
    x.merge(2, 1);
    due(x, 6, 0, 0);
    x.merge(0, 1);
    due(x, 6, 0, 0);
  }

  static void promise21And22The60WafersOf24Lots() {
    LotTracker x = Fab.entered();
    for (int lot = 0; lot < 24; lot++) {
      x.enter(lot < 12 ? 2 : 3);
    }
    due(x, 60, 0, 0);
    x.start(23);
    x.advance(10);
    due(x, 57, 3, 0);
    x.scrap(59);
    x.scrap(0);
    due(x, 56, 2, 0);
    due(Fab.lotOf60(), 60, 0, 0);
  }

  static void promise21And22Step0AndStep11AreTaken() {
    LotTracker x = Fab.steps(12);
    x.enter(5);
    for (int step = 0; step < 12; step++) {
      for (int other = 0; other < 12; other++) {
        Check.due("wafersAt " + other, other == step ? 5 : 0, x.wafersAt(other));
        Check.due("wafersAtByWafers " + other, other == step ? 5 : 0, x.wafersAtByWafers(other));
      }
      x.start(0);
      x.advance(10);
    }
    Check.due("wafersAt 11 behind it", 0, x.wafersAt(11));
    Check.due("wafersAtByWafers 11 behind it", 0, x.wafersAtByWafers(11));
  }

  static void promise21NoSuchStep() {
    Fab.refusesStepsThatThereAreNot("wafersAt", (t, step) -> t.wafersAt(step));
  }

  static void promise22NoSuchStep() {
    Fab.refusesStepsThatThereAreNot("wafersAtByWafers", (t, step) -> t.wafersAtByWafers(step));
  }
}
