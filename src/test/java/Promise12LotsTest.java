public final class Promise12LotsTest {
  public static void main(String[] args) {
    Cases.run(Promise12LotsTest.class);
  }

  static void promise12ThereAre0AtFirst() {
    Check.due("lots of a new object", 0, new LotTracker().lots());
    Check.due("lots with 12 steps", 0, Fab.steps(12).lots());
  }

  static void promise12ThereAre24AtMost() {
    LotTracker x = Fab.entered();
    for (int lot = 0; lot < 24; lot++) {
      x.enter(2);
      Check.due("lots", lot + 1, x.lots());
    }
    Check.answer(x, t -> t.enter(1));
    Check.answer(x, t -> t.split(0, 1));
    Check.due("lots behind refusals", 24, x.lots());
  }

  static void promise12ASplitMakesOneMore() {
    LotTracker x = Fab.entered(3, 2);
    x.split(0, 1);
    Check.due("lots", 3, x.lots());
  }

  static void promise12LotsThatWereCount() {
    LotTracker x = Fab.entered(3, 2, 1);
    x.merge(0, 1);
    Check.due("lots behind a merge", 3, x.lots());
    x.scrap(5);
    Check.due("lots behind the scrap of one", 3, x.lots());
    Check.due("lots with one that is DONE and one ENDED", 3, Fab.doneWaitingEnded().lots());
  }

  static void promise12ARefusedEnterMakesNone() {
    LotTracker x = Fab.entered(12, 12, 12, 12, 12);
    Check.answer(x, t -> t.enter(1));
    Check.answer(x, t -> t.enter(13));
    Check.due("lots", 5, x.lots());
  }
}
