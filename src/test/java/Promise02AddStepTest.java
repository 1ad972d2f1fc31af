import java.util.function.Supplier;

public final class Promise02AddStepTest {
  public static void main(String[] args) {
    Cases.run(Promise02AddStepTest.class);
  }

  static void promise2AnswersTheNumbersInOrder() {
    LotTracker x = new LotTracker();
    for (int step = 0; step < 12; step++) {
      Check.due("addStep", step, x.addStep(step % 6, 1 + step, step, 0));
    }
  }

  static void promise2AStepKeepsWhatItWasGiven() {
    LotTracker x = new LotTracker();
    x.addStep(5, 7, 30, 0);
    x.addStep(2, 9, 0, 0);
    x.addStep(5, 11, 40, 1);
    x.enter(1);
    Check.due("limit of step 0", 30, x.slack(0));
    Check.due("tool of step 0", 0, x.nextFor(5));
    Check.due("minutes of step 0", 7, x.start(0));
    x.advance(7);
    Check.due("no limit of step 1", 1000000, x.slack(0));
    Check.due("tool of step 1", 0, x.nextFor(2));
    Check.due("the tool of step 0 has no lot", LotTracker.NONE, x.nextFor(5));
    Check.due("minutes of step 1", 16, x.start(0));
    x.advance(9);
    Check.due("limit of step 2", 40, x.slack(0));
    Check.due("tool of step 2", 0, x.nextFor(5));
    Check.due("back of step 2", 1, x.rework(0));
    Check.due("back of step 1", 0, x.rework(0));
  }

  private static Supplier<LotTracker> steps(int count) {
    return () -> Fab.steps(count);
  }

  // Whether the step is there with this tool is told by the lot that waits for it.
  private static void takesTool(int tool) {
    LotTracker x = new LotTracker();
    Check.due("addStep with the tool " + tool, 0, x.addStep(tool, 10, 0, 0));
    x.enter(1);
    for (int other = 0; other < 6; other++) {
      Check.due("nextFor " + other, other == tool ? 0 : LotTracker.NONE, x.nextFor(other));
    }
  }

  private static void refusesTool(int tool) {
    Check.refuses("the tool " + tool + " for the first step", Check.INDEX, steps(0), t -> t.addStep(tool, 1, 0, 0));
    Check.refuses("the tool " + tool + " for the last step", Check.INDEX, steps(11), t -> t.addStep(tool, 1, 0, 0));
  }

  static void promise2Tool0IsTheSmallest() {
    takesTool(0);
    refusesTool(-1);
    refusesTool(Check.MIN);
  }

  static void promise2Tool5IsTheLargest() {
    takesTool(5);
    refusesTool(6);
    refusesTool(Check.MAX);
  }

  static void promise2TheToolsBetween() {
    for (int tool = 1; tool < 5; tool++) {
      takesTool(tool);
    }
  }

  private static void takesMinutes(int minutes) {
    LotTracker x = Fab.oneStep(minutes, 0);
    Check.due("start of " + minutes + " minutes", minutes, x.start(0));
    if (minutes > 1) {
      Check.due("advance to one minute before", 0, x.advance(minutes - 1));
    }
    Check.due("advance to the end", 1, x.advance(1));
  }

  private static void refusesMinutes(int minutes) {
    Check.refuses(minutes + " minutes", Check.ARGUMENT, steps(2), t -> t.addStep(0, minutes, 0, 0));
  }

  static void promise2Minutes1AreTheLeast() {
    takesMinutes(1);
    takesMinutes(2);
    refusesMinutes(0);
    refusesMinutes(-1);
    refusesMinutes(Check.MIN);
  }

  static void promise2Minutes1000AreTheMost() {
    takesMinutes(1000);
    takesMinutes(999);
    refusesMinutes(1001);
    refusesMinutes(Check.MAX);
  }

  private static void takesLimit(int limit) {
    LotTracker x = Fab.oneStep(10, limit);
    Check.due("slack at the limit " + limit, limit, x.slack(0));
    x.advance(limit);
    Check.due("late once the limit is reached", false, x.isLate(0));
    x.advance(1);
    Check.due("late one minute later", true, x.isLate(0));
  }

  private static void refusesLimit(int limit) {
    Check.refuses("the limit " + limit, Check.ARGUMENT, steps(2), t -> t.addStep(0, 1, limit, 0));
  }

  static void promise2Limit0IsTheLeastAndNone() {
    LotTracker x = Fab.oneStep(10, 0);
    Check.due("slack", 1000000, x.slack(0));
    x.advance(10000);
    Check.due("late", false, x.isLate(0));
    Check.due("start", 10010, x.start(0));
    refusesLimit(-1);
    refusesLimit(Check.MIN);
  }

  static void promise2Limit1IsTheLeastThatIsOne() {
    takesLimit(1);
    takesLimit(2);
  }

  static void promise2Limit10000IsTheMost() {
    takesLimit(10000);
    takesLimit(9999);
    refusesLimit(10001);
    refusesLimit(Check.MAX);
  }

  private static void takesBack(int step, int back) {
    LotTracker x = Fab.steps(step);
    Check.due("the step " + step + " with rework to " + back, step, x.addStep(0, 10, 0, back));
    x.enter(1);
    for (int i = 0; i < step; i++) {
      x.start(0);
      x.advance(10);
    }
    Check.due("rework from the step " + step, back, x.rework(0));
  }

  static void promise2Back0IsTheLeast() {
    for (int step = 0; step < 12; step++) {
      takesBack(step, 0);
    }
    for (int count = 0; count < 12; count++) {
      Check.refuses("back -1 for the step " + count, Check.ARGUMENT, steps(count), t -> t.addStep(0, 1, 0, -1));
    }
    Check.refuses("the least back of all", Check.ARGUMENT, steps(2), t -> t.addStep(0, 1, 0, Check.MIN));
  }

  static void promise2BackToTheStepItselfIsTheMost() {
    for (int step = 0; step < 12; step++) {
      takesBack(step, step);
    }
    for (int count = 0; count < 12; count++) {
      int next = count + 1;
      Check.refuses("back behind the step " + count, Check.ARGUMENT, steps(count), t -> t.addStep(0, 1, 0, next));
    }
    Check.refuses("the most back of all", Check.ARGUMENT, steps(2), t -> t.addStep(0, 1, 0, Check.MAX));
  }

  static void promise2BackBetween() {
    takesBack(2, 1);
    takesBack(11, 1);
    takesBack(11, 10);
  }

  static void promise2TheLeastOfAllAndTheMostOfAll() {
    LotTracker x = new LotTracker();
    Check.due("the least of all", 0, x.addStep(0, 1, 0, 0));
    Check.due("the most of all", 1, x.addStep(5, 1000, 10000, 1));
  }

  static void promise2TheTwelfthStepIsTaken() {
    LotTracker x = Fab.steps(11);
    Check.due("addStep with 11 steps", 11, x.addStep(3, 10, 0, 11));
    Check.due("the step is there", 0, x.wafersAt(11));
    x.enter(1);
    for (int step = 0; step < 11; step++) {
      x.start(0);
      x.advance(10);
    }
    Check.due("a lot comes to it", 0, x.nextFor(3));
  }

  static void promise2TheThirteenthStepIsRefused() {
    Check.refuses("addStep with 12 steps", Check.STATE, steps(12), t -> t.addStep(0, 1, 0, 0));
    Check.refuses("addStep with 12 steps, the most of all", Check.STATE, steps(12),
        t -> t.addStep(5, 1000, 10000, 11));
    Check.refuses("addStep with 12 steps, back to itself", Check.STATE, steps(12), t -> t.addStep(0, 1, 0, 12));
    Check.refuses("addStep with 12 steps, back behind itself", Check.ARGUMENT, steps(12), t -> t.addStep(0, 1, 0, 13));
    Check.refuses("addStep with 12 steps and a lot", Check.STATE, Fab.after(steps(12), t -> t.enter(1)),
        t -> t.addStep(0, 1, 0, 0));
  }

  static void promise2NoStepOnceALotHasEntered() {
    Check.refuses("addStep while a lot waits", Check.STATE, () -> Fab.entered(1), t -> t.addStep(0, 1, 0, 0));
    Check.refuses("addStep while a lot runs", Check.STATE, Fab::runningWaiting, t -> t.addStep(0, 1, 0, 3));
    Check.refuses("addStep once the only lot is ENDED", Check.STATE,
        Fab.after(() -> Fab.entered(1), t -> t.scrap(0)), t -> t.addStep(0, 1, 0, 0));
    Supplier<LotTracker> done = Fab.after(Fab.after(() -> Fab.oneStep(10, 0), t -> t.start(0)), t -> t.advance(10));
    Check.refuses("addStep once the only lot is DONE", Check.STATE, done, t -> t.addStep(0, 1, 0, 0));
    Check.refuses("addStep with 24 lots", Check.STATE, () -> Fab.lots(24), t -> t.addStep(0, 1, 0, 0));
  }

  static void promise2AStepWhileNoLotHasEntered() {
    LotTracker x = Fab.steps(1);
    Check.answer(x, t -> t.enter(13));
    x.advance(10000);
    Check.due("addStep behind a refused enter, late", 1, x.addStep(0, 1, 0, 1));
  }

  static void promise2ARefusedStepTakesNoNumber() {
    LotTracker x = Fab.steps(2);
    Check.answer(x, t -> t.addStep(6, 1, 0, 0));
    Check.answer(x, t -> t.addStep(0, 0, 0, 0));
    Check.due("the next step", 2, x.addStep(0, 1, 0, 2));
  }

  private static void refusedToolFirst(Supplier<LotTracker> setup) {
    for (int tool : new int[] {-1, 6}) {
      Check.refuses("tool and minutes", Check.INDEX, setup, t -> t.addStep(tool, 0, 0, 0));
      Check.refuses("tool and limit", Check.INDEX, setup, t -> t.addStep(tool, 1, -1, 0));
      Check.refuses("tool and back", Check.INDEX, setup, t -> t.addStep(tool, 1, 0, -1));
      Check.refuses("tool and all others", Check.INDEX, setup, t -> t.addStep(tool, 1001, 10001, 14));
    }
  }

  static void promise2IndexIsThrownBeforeArgument() {
    refusedToolFirst(steps(0));
    refusedToolFirst(steps(2));
  }

  static void promise2IndexIsThrownBeforeState() {
    Check.refuses("tool with 12 steps", Check.INDEX, steps(12), t -> t.addStep(6, 1, 0, 0));
    Check.refuses("tool with a lot", Check.INDEX, () -> Fab.entered(1), t -> t.addStep(-1, 1, 0, 0));
  }

  static void promise2IndexIsThrownBeforeArgumentAndState() {
    refusedToolFirst(steps(12));
    refusedToolFirst(() -> Fab.entered(1));
  }

  private static void refusedArgumentFirst(Supplier<LotTracker> setup) {
    for (int minutes : new int[] {0, 1001}) {
      Check.refuses("minutes " + minutes, Check.ARGUMENT, setup, t -> t.addStep(0, minutes, 0, 0));
    }
    for (int limit : new int[] {-1, 10001}) {
      Check.refuses("limit " + limit, Check.ARGUMENT, setup, t -> t.addStep(0, 1, limit, 0));
    }
    for (int back : new int[] {-1, 14}) {
      Check.refuses("back " + back, Check.ARGUMENT, setup, t -> t.addStep(0, 1, 0, back));
    }
  }

  static void promise2ArgumentIsThrownBeforeState() {
    refusedArgumentFirst(steps(12));
    refusedArgumentFirst(() -> Fab.entered(1));
    Check.refuses("back behind the fourth step, with a lot", Check.ARGUMENT, () -> Fab.entered(1),
        t -> t.addStep(0, 1, 0, 4));
  }
}
