public final class Promise11TimeTest {
  public static void main(String[] args) {
    Cases.run(Promise11TimeTest.class);
  }

  static void promise11ItIs0AtFirst() {
    Check.due("time", 0, new LotTracker().time());
  }

  static void promise11ItPassesByAdvance() {
    LotTracker x = new LotTracker();
    x.advance(1);
    Check.due("time", 1, x.time());
    x.advance(10000);
    Check.due("time", 10001, x.time());
    Check.due("time asked again", 10001, x.time());
  }

  static void promise11ItPassesByAdvanceAlone() {
    LotTracker x = Fab.entered(3, 3, 3);
    x.advance(5);
    x.start(0);
    x.rework(1);
    x.split(1, 1);
    x.merge(2, 1);
    x.hold(1, true);
    x.scrap(3);
    x.enter(1);
    x.nextFor(0);
    Check.due("time", 5, x.time());
  }

  static void promise11ItDoesNotPassByARefusedAdvance() {
    LotTracker x = new LotTracker();
    x.advance(3);
    Check.answer(x, t -> t.advance(0));
    Check.answer(x, t -> t.advance(-1));
    Check.answer(x, t -> t.advance(10001));
    Check.due("time", 3, x.time());
  }

  static void promise11TheMostThatCanPass() {
    LotTracker x = new LotTracker();
    for (int i = 0; i < 511; i++) {
      x.advance(10000);
    }
    Check.due("time", 5110000, x.time());
  }
}
