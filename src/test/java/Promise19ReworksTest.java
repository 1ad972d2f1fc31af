public final class Promise19ReworksTest {
  public static void main(String[] args) {
    Cases.run(Promise19ReworksTest.class);
  }

  static void promise19From0To2() {
    LotTracker x = Fab.entered(1);
    Check.due("of a new lot", 0, x.reworks(0));
    x.rework(0);
    Check.due("behind the first", 1, x.reworks(0));
    x.rework(0);
    Check.due("behind the second", 2, x.reworks(0));
    Check.answer(x, t -> t.rework(0));
    Check.due("behind one that is refused", 2, x.reworks(0));
  }

  static void promise19TheyStayOnItsWay() {
    LotTracker x = Fab.entered(1);
    x.rework(0);
    for (int step = 0; step < 3; step++) {
      x.start(0);
      Check.due("while it runs", 1, x.reworks(0));
      x.advance(10);
    }
    Check.due("of a DONE lot", 1, x.reworks(0));
  }

  static void promise19OfALotThatWasSplitOff() {
    LotTracker x = Fab.entered(3);
    x.split(0, 1);
    x.rework(0);
    x.split(0, 1);
    Check.due("split off before", 0, x.reworks(1));
    Check.due("split off then", 1, x.reworks(2));
    Check.due("of the parent", 1, x.reworks(0));
  }

  static void promise19OfALotThatWasMerged() {
    LotTracker x = Fab.entered(1, 1, 1);
    x.rework(0);
    x.merge(0, 1);
    Check.due("the more came in", 1, x.reworks(1));
    x.rework(1);
    x.merge(2, 1);
    Check.due("the less came in", 2, x.reworks(1));
  }

  static void promise19ALotThatIsEndedHasHadAsMany() {
    LotTracker x = Fab.entered(1, 1, 1);
    x.rework(0);
    x.scrap(0);
    Check.due("of a scrapped lot", 1, x.reworks(0));
    x.rework(1);
    x.rework(1);
    x.merge(1, 2);
    Check.due("of a merged lot", 2, x.reworks(1));
  }

  static void promise19TheFirstAndTheLastOf24Lots() {
    LotTracker x = Fab.lots(24);
    x.rework(0);
    x.rework(23);
    x.rework(23);
    Check.due("reworks of lot 0", 1, x.reworks(0));
    Check.due("reworks of lot 1", 0, x.reworks(1));
    Check.due("reworks of lot 22", 0, x.reworks(22));
    Check.due("reworks of lot 23", 2, x.reworks(23));
  }

  static void promise19NoSuchLot() {
    Fab.refusesLotsThatThereAreNot("reworks", (t, lot) -> t.reworks(lot));
  }
}
