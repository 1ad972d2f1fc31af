import java.util.function.Supplier;

/** Promises 1 to 3: a new object, addStep, enter. */
public final class RouteTest {
  private static final Class<IndexOutOfBoundsException> INDEX = IndexOutOfBoundsException.class;
  private static final Class<IllegalArgumentException> ARGUMENT = IllegalArgumentException.class;
  private static final Class<IllegalStateException> STATE = IllegalStateException.class;
  private static final int MIN = Integer.MIN_VALUE, MAX = Integer.MAX_VALUE;

  public static void main(String[] args) {
    promise1NewObject();
    promise1ObjectsShareNothing();
    promise2NumbersAndWhatAStepKeeps();
    promise2Edges();
    promise2WrongInputs();
    promise2WrongInputsInOrder();
    promise2RouteThatIsShut();
    promise3NumbersAndWhereALotWaits();
    promise3WrongInputs();
    promise3LimitOfLots();
    promise3LimitOfWafers();
    Check.end("RouteTest");
  }

  private static LotTracker route(int steps) {
    LotTracker x = new LotTracker();
    for (int step = 0; step < steps; step++) {
      x.addStep(step % 6, 10, 0, step);
    }
    return x;
  }

  private static void promise1NewObject() {
    LotTracker x = new LotTracker();
    Check.due("time of a new object", 0, x.time());
    Check.due("lots of a new object", 0, x.lots());
    Check.due("wafers of a new object", 0, x.wafers());
    for (int tool = 0; tool < 6; tool++) {
      Check.due("nextFor of a new object", LotTracker.NONE, x.nextFor(tool));
    }
    Check.refuses("lot 0 of a new object", INDEX, LotTracker::new, t -> t.state(0));
    Check.refuses("wafer 0 of a new object", INDEX, LotTracker::new, t -> t.lotOf(0));
    Check.refuses("step 0 of a new object", INDEX, LotTracker::new, t -> t.wafersAt(0));
    Check.refuses("enter on a new object", STATE, LotTracker::new, t -> t.enter(1));
  }

  private static void promise1ObjectsShareNothing() {
    LotTracker one = route(1);
    one.enter(3);
    one.advance(5);
    LotTracker two = new LotTracker();
    Check.due("lots of another object", 0, two.lots());
    Check.due("time of another object", 0, two.time());
    Check.due("first step of another object", 0, two.addStep(0, 1, 0, 0));
  }

  private static void promise2NumbersAndWhatAStepKeeps() {
    LotTracker x = new LotTracker();
    Check.due("first addStep", 0, x.addStep(5, 7, 30, 0));
    Check.due("second addStep", 1, x.addStep(2, 9, 0, 0));
    Check.due("third addStep", 2, x.addStep(5, 11, 40, 1));
    x.enter(1);
    Check.due("limit of step 0", 30, x.slack(0));
    Check.due("tool of step 0", 0, x.nextFor(5));
    Check.due("minutes of step 0", 7, x.start(0));
    x.advance(7);
    Check.due("no limit of step 1", 1000000, x.slack(0));
    Check.due("tool of step 1", 0, x.nextFor(2));
    Check.due("tool of step 0 has no lot", LotTracker.NONE, x.nextFor(5));
    Check.due("minutes of step 1", 16, x.start(0));
    x.advance(9);
    Check.due("limit of step 2", 40, x.slack(0));
    Check.due("back of step 2", 1, x.rework(0));
    Check.due("back of step 1", 0, x.rework(0));
  }

  private static void promise2Edges() {
    LotTracker x = new LotTracker();
    Check.due("least of all", 0, x.addStep(0, 1, 0, 0));
    Check.due("most of all", 1, x.addStep(5, 1000, 10000, 1));
    x.enter(1);
    Check.due("one minute", 1, x.start(0));
    x.advance(1);
    Check.due("limit 10000", 10000, x.slack(0));
    Check.due("back to the step itself", 1, x.rework(0));
    Check.due("1000 minutes", 1001, x.start(0));
  }

  private static void promise2WrongInputs() {
    Supplier<LotTracker> twoSteps = () -> route(2);
    for (int tool : new int[] {-1, 6, MIN, MAX}) {
      Check.refuses("addStep tool " + tool, INDEX, twoSteps, t -> t.addStep(tool, 1, 0, 0));
    }
    for (int minutes : new int[] {0, -1, 1001, MIN, MAX}) {
      Check.refuses("addStep minutes " + minutes, ARGUMENT, twoSteps, t -> t.addStep(0, minutes, 0, 0));
    }
    for (int limit : new int[] {-1, 10001, MIN, MAX}) {
      Check.refuses("addStep limit " + limit, ARGUMENT, twoSteps, t -> t.addStep(0, 1, limit, 0));
    }
    for (int back : new int[] {-1, 3, MIN, MAX}) {
      Check.refuses("addStep back " + back, ARGUMENT, twoSteps, t -> t.addStep(0, 1, 0, back));
    }
    LotTracker x = route(2);
    Check.answer(x, t -> t.addStep(0, 0, 0, 0));
    Check.due("the number after a refusal", 2, x.addStep(0, 1, 0, 2));
  }

  private static void promise2WrongInputsInOrder() {
    Supplier<LotTracker> shut = () -> {
      LotTracker x = route(1);
      x.enter(1);
      return x;
    };
    Check.refuses("addStep with all wrong", INDEX, shut, t -> t.addStep(6, 0, -1, 9));
    Check.refuses("addStep tool and state wrong", INDEX, shut, t -> t.addStep(-1, 1, 0, 0));
    Check.refuses("addStep minutes and state wrong", ARGUMENT, shut, t -> t.addStep(0, 0, 0, 0));
    Check.refuses("addStep limit and state wrong", ARGUMENT, shut, t -> t.addStep(0, 1, 10001, 0));
    Check.refuses("addStep back and state wrong", ARGUMENT, shut, t -> t.addStep(0, 1, 0, 2));
  }

  private static void promise2RouteThatIsShut() {
    LotTracker x = route(11);
    Check.due("the twelfth step", 11, x.addStep(0, 1, 0, 11));
    Check.refuses("the thirteenth step", STATE, () -> route(12), t -> t.addStep(0, 1, 0, 0));
    Check.refuses("the thirteenth step, back to itself", STATE, () -> route(12), t -> t.addStep(0, 1, 0, 12));
    Check.refuses("the thirteenth step, back behind it", ARGUMENT, () -> route(12), t -> t.addStep(0, 1, 0, 13));
    Check.refuses("a step once a lot has entered", STATE, () -> {
      LotTracker y = route(1);
      y.enter(1);
      return y;
    }, t -> t.addStep(0, 1, 0, 0));
    Check.refuses("a step once the only lot is ENDED", STATE, () -> {
      LotTracker y = route(1);
      y.enter(1);
      y.scrap(0);
      return y;
    }, t -> t.addStep(0, 1, 0, 0));
    LotTracker refused = route(1);
    Check.answer(refused, t -> t.enter(13));
    Check.due("a step after an enter that was refused", 1, refused.addStep(0, 1, 0, 0));
  }

  private static void promise3NumbersAndWhereALotWaits() {
    LotTracker x = new LotTracker();
    x.addStep(1, 5, 20, 0);
    x.addStep(2, 5, 0, 0);
    Check.due("first enter", 0, x.enter(1));
    x.advance(7);
    Check.due("second enter", 1, x.enter(12));
    Check.due("lots", 2, x.lots());
    Check.due("wafers", 13, x.wafers());
    Check.due("size of lot 0", 1, x.size(0));
    Check.due("size of lot 1", 12, x.size(1));
    Check.due("state of lot 1", LotTracker.WAITING, x.state(1));
    Check.due("step of lot 1", 0, x.stepOf(1));
    Check.due("lot 0 waits since 0", 13, x.slack(0));
    Check.due("lot 1 waits since now", 20, x.slack(1));
    Check.due("no parent", LotTracker.NONE, x.parentOf(1));
    Check.due("no reworks", 0, x.reworks(1));
    Check.due("not held", false, x.hold(1, true));
    Check.due("wafer 0", 0, x.lotOf(0));
    Check.due("wafer 1", 1, x.lotOf(1));
    Check.due("wafer 12", 1, x.lotOf(12));
    Check.due("path of wafer 12", 1, x.path(12));
    Check.due("path of wafer 12, place 0", 1, x.pathAt(12, 0));
  }

  private static void promise3WrongInputs() {
    for (int wafers : new int[] {0, -1, 13, MIN, MAX}) {
      Check.refuses("enter " + wafers, ARGUMENT, () -> route(1), t -> t.enter(wafers));
      Check.refuses("enter " + wafers + " without a step", ARGUMENT, LotTracker::new, t -> t.enter(wafers));
    }
    Check.refuses("enter without a step", STATE, LotTracker::new, t -> t.enter(12));
  }

  private static void promise3LimitOfLots() {
    Supplier<LotTracker> full = () -> {
      LotTracker x = route(1);
      for (int lot = 0; lot < 24; lot++) {
        Check.due("enter as lot", lot, x.enter(1));
      }
      return x;
    };
    Check.refuses("the 25th lot", STATE, full, t -> t.enter(1));
    Check.refuses("the 25th lot with too many wafers", ARGUMENT, full, t -> t.enter(13));
    Check.refuses("the 25th lot, though one is ENDED", STATE, () -> {
      LotTracker x = full.get();
      x.merge(3, 4);
      return x;
    }, t -> t.enter(1));
  }

  private static void promise3LimitOfWafers() {
    Supplier<LotTracker> nearlyFull = () -> {
      LotTracker x = route(1);
      for (int lot = 0; lot < 4; lot++) {
        x.enter(12);
      }
      x.enter(9);
      return x;
    };
    Check.refuses("61 wafers", STATE, nearlyFull, t -> t.enter(4));
    Check.refuses("61 wafers, though some are scrapped", STATE, () -> {
      LotTracker x = nearlyFull.get();
      x.scrap(0);
      x.scrap(1);
      return x;
    }, t -> t.enter(4));
    LotTracker x = nearlyFull.get();
    Check.due("60 wafers", 5, x.enter(3));
    Check.due("60 wafers there were", 60, x.wafers());
    Check.due("the last wafer", 5, x.lotOf(59));
    Check.due("one more", "throws java.lang.IllegalStateException", Check.answer(x, t -> t.enter(1)));
  }
}
