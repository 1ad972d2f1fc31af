import java.util.function.Function;
import java.util.function.Supplier;

/** The trackers that the tests begin with, and the refusals of numbers that there are not. */
final class Fab {
  private Fab() {
  }

  /** A call that takes one number. */
  interface Call {
    Object of(LotTracker tracker, int number);
  }

  /** Each step on the tool of its number (again from 0 behind 5), 10 minutes, no limit, back to itself. */
  static LotTracker steps(int count) {
    LotTracker x = new LotTracker();
    for (int step = 0; step < count; step++) {
      x.addStep(step % 6, 10, 0, step);
    }
    return x;
  }

  /**
   * Step 0 on tool 0: 10 minutes, limit 20, back to itself. Step 1 on tool 1: 5 minutes, no limit, back to 0.
   * Step 2 on tool 0 again: 7 minutes, limit 30, back to 1.
   */
  static LotTracker entered(int... wafers) {
    LotTracker x = new LotTracker();
    x.addStep(0, 10, 20, 0);
    x.addStep(1, 5, 0, 0);
    x.addStep(0, 7, 30, 1);
    for (int count : wafers) {
      x.enter(count);
    }
    return x;
  }

  /** One lot of one wafer at a single step, on tool 0. */
  static LotTracker oneStep(int minutes, int limit) {
    LotTracker x = new LotTracker();
    x.addStep(0, minutes, limit, 0);
    x.enter(1);
    return x;
  }

  /** Lot 0 of 3 wafers is DONE, lot 1 of 2 waits at step 0, lot 2 is ENDED; wafer 5 is scrapped. */
  static LotTracker doneWaitingEnded() {
    LotTracker x = entered(3);
    for (int step = 0; step < 3; step++) {
      x.start(0);
      x.advance(10);
    }
    x.enter(2);
    x.enter(1);
    x.scrap(5);
    return x;
  }

  /** Lot 0 of 3 wafers runs until 10, lot 1 of 2 waits for the same tool. */
  static LotTracker runningWaiting() {
    LotTracker x = entered(3, 2);
    x.start(0);
    return x;
  }

  /** A lot of 3 wafers and lots of 1, all at step 0. */
  static LotTracker lots(int count) {
    LotTracker x = entered(3);
    for (int lot = 1; lot < count; lot++) {
      x.enter(1);
    }
    return x;
  }

  /** All 60 wafers in one lot, lot 0, at step 0; the lots 1 to 4 are ENDED. */
  static LotTracker lotOf60() {
    LotTracker x = entered(12, 12, 12, 12, 12);
    for (int lot = 1; lot < 5; lot++) {
      x.merge(lot, 0);
    }
    return x;
  }

  /** Lots 0 and 1 enter; 2 and 3 are split off 0, 4 off 2, 5 off 1, 6 off 4. */
  static LotTracker family() {
    LotTracker x = entered(8, 4);
    x.split(0, 4);
    x.split(0, 1);
    x.split(2, 2);
    x.split(1, 1);
    x.split(4, 1);
    return x;
  }

  /** Wafer 0 leaves lot 0 for each other lot and comes back: 24 lots can give no longer path than these 47. */
  static LotTracker longestPath() {
    LotTracker x = entered(2);
    for (int lot = 1; lot < 24; lot++) {
      x.split(0, 1);
      x.merge(lot, 0);
    }
    return x;
  }

  static Supplier<LotTracker> after(Supplier<LotTracker> setup, Function<LotTracker, Object> call) {
    return () -> {
      LotTracker x = setup.get();
      call.apply(x);
      return x;
    };
  }

  static void refusesLotsThatThereAreNot(String name, Call call) {
    refusesNumbers(name + " of a new object, lot", LotTracker::new, 0, call);
    refusesNumbers(name + " with steps and no lots, lot", () -> steps(12), 0, call);
    refusesNumbers(name + " with one lot, lot", () -> entered(1), 1, call);
    refusesNumbers(name + " with lots that are DONE, WAITING and ENDED, lot", Fab::doneWaitingEnded, 3, call);
    refusesNumbers(name + " with 24 lots, lot", () -> lots(24), 24, call);
  }

  static void refusesWafersThatThereAreNot(String name, Call call) {
    refusesNumbers(name + " of a new object, wafer", LotTracker::new, 0, call);
    refusesNumbers(name + " with steps and no wafers, wafer", () -> steps(12), 0, call);
    refusesNumbers(name + " with one wafer, wafer", () -> entered(1), 1, call);
    refusesNumbers(name + " with a scrapped wafer, wafer", Fab::doneWaitingEnded, 6, call);
    refusesNumbers(name + " with 60 wafers, wafer", Fab::lotOf60, 60, call);
  }

  static void refusesStepsThatThereAreNot(String name, Call call) {
    refusesNumbers(name + " of a new object, step", LotTracker::new, 0, call);
    refusesNumbers(name + " with one step, step", () -> steps(1), 1, call);
    refusesNumbers(name + " with three steps and lots, step", Fab::doneWaitingEnded, 3, call);
    refusesNumbers(name + " with 12 steps, step", () -> steps(12), 12, call);
  }

  static void refusesToolsThatThereAreNot(String name, Call call) {
    refusesNumbers(name + " of a new object, tool", LotTracker::new, 6, call);
    refusesNumbers(name + " with lots, tool", Fab::runningWaiting, 6, call);
    refusesNumbers(name + " with 12 steps, tool", () -> steps(12), 6, call);
  }

  // There are the numbers from 0 to one below the count.
  private static void refusesNumbers(String what, Supplier<LotTracker> setup, int count, Call call) {
    for (int number : new int[] {-1, count, count + 1, Check.MIN, Check.MAX}) {
      Check.refuses(what + " " + number, Check.INDEX, setup, t -> call.of(t, number));
    }
  }
}
