import java.util.function.Function;
import java.util.function.Supplier;

/** Promises 4 to 10: start, rework, split, merge, hold, scrap, advance. */
public final class LotCallsTest {
  private static final Class<IndexOutOfBoundsException> INDEX = IndexOutOfBoundsException.class;
  private static final Class<IllegalArgumentException> ARGUMENT = IllegalArgumentException.class;
  private static final Class<IllegalStateException> STATE = IllegalStateException.class;
  private static final int MIN = Integer.MIN_VALUE, MAX = Integer.MAX_VALUE;

  public static void main(String[] args) {
    promise4Start();
    promise4Tools();
    promise4Refusals();
    promise4LateByOneMinute();
    promise5Rework();
    promise5Refusals();
    promise6Split();
    promise6WhatTheNewLotTakesOver();
    promise6Refusals();
    promise7Merge();
    promise7SinceAndReworks();
    promise7Refusals();
    promise7RefusesInOrder();
    promise8Hold();
    promise8Refusals();
    promise9Scrap();
    promise9Refusals();
    promise10Advance();
    promise10WaitsSinceTheEnd();
    promise10Refusals();
    Check.end("LotCallsTest");
  }

  /** Step 0: tool 0, 10 minutes, limit 20. Step 1: tool 1, 5 minutes, no limit. Step 2: tool 0 again, back to 1. */
  private static LotTracker fab() {
    LotTracker x = new LotTracker();
    x.addStep(0, 10, 20, 0);
    x.addStep(1, 5, 0, 0);
    x.addStep(0, 7, 30, 1);
    return x;
  }

  private static LotTracker fab(int... entering) {
    LotTracker x = fab();
    for (int wafers : entering) {
      x.enter(wafers);
    }
    return x;
  }

  private static Supplier<LotTracker> after(Supplier<LotTracker> setup, Function<LotTracker, Object> call) {
    return () -> {
      LotTracker x = setup.get();
      call.apply(x);
      return x;
    };
  }

  /** A lot 0 of 3 wafers that is DONE, a lot 1 of 2 that waits at step 0, a lot 2 that is ENDED. */
  private static LotTracker doneWaitingEnded() {
    LotTracker x = fab(3);
    runThrough(x, 0);
    x.enter(2);
    x.enter(1);
    x.scrap(5);
    return x;
  }

  private static void runThrough(LotTracker x, int lot) {
    for (int step = 0; step < 3; step++) {
      x.start(lot);
      x.advance(10);
    }
  }

  private static void promise4Start() {
    LotTracker x = fab(2);
    x.advance(3);
    Check.due("start", 13, x.start(0));
    Check.due("state", LotTracker.RUNNING, x.state(0));
    Check.due("step", 0, x.stepOf(0));
    x.advance(10);
    Check.due("start at step 1", 18, x.start(0));
    x.advance(6);
    Check.due("start at step 2", 26, x.start(0));
    x.advance(7);
    Check.due("state behind the route", LotTracker.DONE, x.state(0));
  }

  private static void promise4Tools() {
    LotTracker x = fab(1, 1, 1);
    x.start(0);
    x.advance(10);
    Check.due("another lot once the tool is free", 20, x.start(1));
    Check.due("another tool", 15, x.start(0));
    x.advance(5);
    Check.due("lot 0 waits for the tool of step 0 again", 2, x.stepOf(0));
    Check.due("the tool is taken at another step", "throws java.lang.IllegalStateException",
        Check.answer(x, t -> t.start(0)));
    x.advance(5);
    Check.due("step 2 on tool 0", 27, x.start(0));
    Check.due("tool 0 taken by step 2", "throws java.lang.IllegalStateException",
        Check.answer(x, t -> t.start(2)));
  }

  private static void promise4Refusals() {
    for (int lot : new int[] {-1, 2, MIN, MAX}) {
      Check.refuses("start " + lot, INDEX, () -> fab(1, 1), t -> t.start(lot));
    }
    Supplier<LotTracker> running = after(() -> fab(1, 1), t -> t.start(0));
    Check.refuses("start of a RUNNING lot", STATE, running, t -> t.start(0));
    Check.refuses("start on a tool that runs", STATE, running, t -> t.start(1));
    Check.refuses("start of a DONE lot", STATE, LotCallsTest::doneWaitingEnded, t -> t.start(0));
    Check.refuses("start of an ENDED lot", STATE, LotCallsTest::doneWaitingEnded, t -> t.start(2));
    Check.refuses("start of a held lot", STATE, after(() -> fab(1), t -> t.hold(0, true)), t -> t.start(0));
    Check.refuses("start of a late lot", STATE, after(() -> fab(1), t -> t.advance(21)), t -> t.start(0));
  }

  private static void promise4LateByOneMinute() {
    LotTracker x = fab(1);
    x.advance(20);
    Check.due("start at the limit", 30, x.start(0));
    x.advance(10);
    x.advance(10000);
    Check.due("start where there is no limit", 10035, x.start(0));
  }

  private static void promise5Rework() {
    LotTracker x = fab(2);
    runFirstTwoSteps(x);
    x.advance(4);
    Check.due("rework from step 2", 1, x.rework(0));
    Check.due("state", LotTracker.WAITING, x.state(0));
    Check.due("step", 1, x.stepOf(0));
    Check.due("reworks", 1, x.reworks(0));
    Check.due("slack at step 1", 1000000, x.slack(0));
    x.advance(6);
    Check.due("rework from step 1", 0, x.rework(0));
    Check.due("it waits since now", 20, x.slack(0));
    Check.due("reworks", 2, x.reworks(0));
    Check.due("a third rework", "throws java.lang.IllegalStateException", Check.answer(x, t -> t.rework(0)));
    Check.due("the lot still runs", LotTracker.RUNNING, startAndState(x));
    LotTracker late = fab(1);
    late.advance(21);
    Check.due("a late lot", true, late.isLate(0));
    Check.due("rework of a late lot", 0, late.rework(0));
    Check.due("it is late no more", 20, late.slack(0));
  }

  private static int startAndState(LotTracker x) {
    x.start(0);
    return x.state(0);
  }

  private static void runFirstTwoSteps(LotTracker x) {
    x.start(0);
    x.advance(10);
    x.start(0);
    x.advance(5);
  }

  private static void promise5Refusals() {
    for (int lot : new int[] {-1, 2, MIN, MAX}) {
      Check.refuses("rework " + lot, INDEX, () -> fab(1, 1), t -> t.rework(lot));
    }
    Check.refuses("rework of a RUNNING lot", STATE, after(() -> fab(1), t -> t.start(0)), t -> t.rework(0));
    Check.refuses("rework of a DONE lot", STATE, LotCallsTest::doneWaitingEnded, t -> t.rework(0));
    Check.refuses("rework of an ENDED lot", STATE, LotCallsTest::doneWaitingEnded, t -> t.rework(2));
    Check.refuses("rework of a held lot", STATE, after(() -> fab(1), t -> t.hold(0, true)), t -> t.rework(0));
    Supplier<LotTracker> twice = after(after(() -> fab(1), t -> t.rework(0)), t -> t.rework(0));
    Check.refuses("a third rework", STATE, after(twice, t -> t.advance(3)), t -> t.rework(0));
  }

  private static void promise6Split() {
    LotTracker x = fab(2, 5);
    Check.due("split", 2, x.split(1, 2));
    Check.due("size of the new lot", 2, x.size(2));
    Check.due("size of the other one", 3, x.size(1));
    Check.due("lots", 3, x.lots());
    Check.due("wafers", 7, x.wafers());
    for (int wafer = 0; wafer < 7; wafer++) {
      int lot = wafer < 2 ? 0 : wafer < 4 ? 2 : 1;
      Check.due("lot of wafer " + wafer, lot, x.lotOf(wafer));
    }
    Check.due("parent", 1, x.parentOf(2));
    Check.due("all but one", 3, x.split(1, 2));
    Check.due("all but one leaves one", 1, x.size(1));
    Check.due("the last wafer stays", 1, x.lotOf(6));
    Check.due("split of a new lot", 4, x.split(3, 1));
    Check.due("its parent", 3, x.parentOf(4));
    Check.due("its wafer", 4, x.lotOf(4));
  }

  private static void promise6WhatTheNewLotTakesOver() {
    LotTracker x = fab(4);
    x.advance(2);
    x.rework(0);
    x.advance(3);
    x.hold(0, true);
    int lot = x.split(0, 1);
    Check.due("state", LotTracker.WAITING, x.state(lot));
    Check.due("step", 0, x.stepOf(lot));
    Check.due("since", 17, x.slack(lot));
    Check.due("reworks", 1, x.reworks(lot));
    Check.due("held", true, x.hold(lot, false));
    Check.due("the other one stays held", true, x.hold(0, false));
    Check.due("a new lot of one that is free", false, x.hold(x.split(0, 1), true));
    x.advance(18);
    Check.due("late", true, x.isLate(x.split(0, 1)));
    LotTracker atStep1 = fab(2);
    atStep1.start(0);
    atStep1.advance(10);
    Check.due("step 1", 1, atStep1.stepOf(atStep1.split(0, 1)));
  }

  private static void promise6Refusals() {
    for (int lot : new int[] {-1, 2, MIN, MAX}) {
      Check.refuses("split of lot " + lot, INDEX, () -> fab(3, 3), t -> t.split(lot, 0));
    }
    for (int wafers : new int[] {0, -1, 3, 4, MIN, MAX}) {
      Check.refuses("split off " + wafers, ARGUMENT, () -> fab(3), t -> t.split(0, wafers));
      Check.refuses("split off " + wafers + " of a RUNNING lot", ARGUMENT,
          after(() -> fab(3), t -> t.start(0)), t -> t.split(0, wafers));
    }
    Check.refuses("split of a lot of one wafer", ARGUMENT, () -> fab(1), t -> t.split(0, 1));
    Check.refuses("split of an ENDED lot", ARGUMENT, LotCallsTest::doneWaitingEnded, t -> t.split(2, 1));
    Check.refuses("split of a RUNNING lot", STATE, after(() -> fab(3), t -> t.start(0)), t -> t.split(0, 1));
    Check.refuses("split of a DONE lot", STATE, LotCallsTest::doneWaitingEnded, t -> t.split(0, 1));
    Supplier<LotTracker> full = () -> {
      LotTracker x = fab(3);
      for (int lot = 1; lot < 24; lot++) {
        x.enter(1);
      }
      return x;
    };
    Check.refuses("a split into the 25th lot", STATE, full, t -> t.split(0, 1));
    Check.refuses("a wrong split into the 25th lot", ARGUMENT, full, t -> t.split(0, 3));
    LotTracker x = fab(3);
    for (int lot = 1; lot < 23; lot++) {
      x.enter(1);
    }
    Check.due("a split into the 24th lot", 23, x.split(0, 1));
  }

  private static void promise7Merge() {
    LotTracker x = fab(2, 3, 1);
    Check.due("merge", 5, x.merge(0, 1));
    Check.due("state of the first lot", LotTracker.ENDED, x.state(0));
    Check.due("size of the first lot", 0, x.size(0));
    Check.due("step of the first lot", LotTracker.NONE, x.stepOf(0));
    Check.due("size of the other one", 5, x.size(1));
    Check.due("state of the other one", LotTracker.WAITING, x.state(1));
    for (int wafer = 0; wafer < 5; wafer++) {
      Check.due("lot of wafer " + wafer, 1, x.lotOf(wafer));
    }
    Check.due("lots", 3, x.lots());
    Check.due("merge into the lower number", 6, x.merge(2, 1));
    Check.due("no parent comes of a merge", LotTracker.NONE, x.parentOf(1));
    Check.due("split of what was merged takes the lowest wafers", 3, x.split(1, 3));
    Check.due("wafer 2", 3, x.lotOf(2));
    Check.due("wafer 3", 1, x.lotOf(3));
    LotTracker large = fab(12, 12, 12, 12, 12);
    for (int lot = 1; lot < 5; lot++) {
      Check.due("a lot of more than 12", 12 * (lot + 1), large.merge(lot, 0));
    }
  }

  private static void promise7SinceAndReworks() {
    for (int into = 0; into < 2; into++) {
      LotTracker x = fab(1);
      x.advance(5);
      x.enter(1);
      x.advance(2);
      x.merge(1 - into, into);
      Check.due("the earlier moment, into " + into, 13, x.slack(into));
      Check.due("of a lot that is ENDED", 2000000, x.slack(1 - into));
    }
    for (int into = 0; into < 2; into++) {
      LotTracker x = fab(1, 1);
      x.rework(0);
      x.rework(0);
      x.rework(1);
      x.merge(1 - into, into);
      Check.due("the more reworks, into " + into, 2, x.reworks(into));
      Check.due("the reworks of the one that is ENDED", into == 0 ? 1 : 2, x.reworks(1 - into));
    }
    LotTracker late = fab(1);
    late.advance(21);
    late.enter(1);
    Check.due("a late lot into one that is not", 2, late.merge(0, 1));
    Check.due("which is late then", true, late.isLate(1));
  }

  private static void promise7Refusals() {
    for (int wrong : new int[] {-1, 2, MIN, MAX}) {
      Check.refuses("merge of lot " + wrong, INDEX, () -> fab(1, 1), t -> t.merge(wrong, 0));
      Check.refuses("merge into lot " + wrong, INDEX, () -> fab(1, 1), t -> t.merge(0, wrong));
      Check.refuses("merge of no lot with itself " + wrong, INDEX, () -> fab(1, 1), t -> t.merge(wrong, wrong));
    }
    Check.refuses("merge with itself", ARGUMENT, () -> fab(1, 1), t -> t.merge(1, 1));
    Supplier<LotTracker> running = after(() -> fab(1, 1), t -> t.start(0));
    Check.refuses("merge of a RUNNING lot", STATE, running, t -> t.merge(0, 1));
    Check.refuses("merge into a RUNNING lot", STATE, running, t -> t.merge(1, 0));
    Supplier<LotTracker> held = after(() -> fab(1, 1), t -> t.hold(0, true));
    Check.refuses("merge of a held lot", STATE, held, t -> t.merge(0, 1));
    Check.refuses("merge into a held lot", STATE, held, t -> t.merge(1, 0));
    Supplier<LotTracker> unlike = after(running, t -> t.advance(10));
    Check.refuses("merge at unlike steps", STATE, unlike, t -> t.merge(0, 1));
    Check.refuses("merge at unlike steps, the other way", STATE, unlike, t -> t.merge(1, 0));
    for (int ended : new int[] {0, 2}) {
      Check.refuses("merge of lot " + ended, STATE, LotCallsTest::doneWaitingEnded, t -> t.merge(ended, 1));
      Check.refuses("merge into lot " + ended, STATE, LotCallsTest::doneWaitingEnded, t -> t.merge(1, ended));
    }
    Check.refuses("merge of two that have left", STATE, LotCallsTest::doneWaitingEnded, t -> t.merge(0, 2));
  }

  private static void promise7RefusesInOrder() {
    Check.refuses("merge of a DONE lot with itself", ARGUMENT, LotCallsTest::doneWaitingEnded, t -> t.merge(0, 0));
    Check.refuses("merge of an ENDED lot with itself", ARGUMENT, LotCallsTest::doneWaitingEnded, t -> t.merge(2, 2));
    Check.refuses("merge of a DONE lot into none", INDEX, LotCallsTest::doneWaitingEnded, t -> t.merge(0, 3));
  }

  private static void promise8Hold() {
    LotTracker x = fab(1, 1);
    Check.due("hold", false, x.hold(0, true));
    Check.due("hold again", true, x.hold(0, true));
    Check.due("the other lot is free", 1, x.nextFor(0));
    Check.due("let go", true, x.hold(0, false));
    Check.due("let go again", false, x.hold(0, false));
    Check.due("it can run", 10, x.start(0));
    Check.due("hold of a RUNNING lot", false, x.hold(0, true));
    Check.due("it goes on running", LotTracker.RUNNING, x.state(0));
    x.advance(10);
    Check.due("it waits at step 1", 1, x.stepOf(0));
    Check.due("it does not begin there", LotTracker.NONE, x.nextFor(1));
    Check.due("it is held there", true, x.hold(0, false));
    Check.due("it can run there", 15, x.start(0));
    x.advance(16);
    Check.due("a late lot can be held", false, x.hold(1, true));
  }

  private static void promise8Refusals() {
    for (int lot : new int[] {-1, 2, MIN, MAX}) {
      Check.refuses("hold of lot " + lot, INDEX, () -> fab(1, 1), t -> t.hold(lot, true));
      Check.refuses("letting go lot " + lot, INDEX, () -> fab(1, 1), t -> t.hold(lot, false));
    }
    for (int lot : new int[] {0, 2}) {
      Check.refuses("hold of lot " + lot, STATE, LotCallsTest::doneWaitingEnded, t -> t.hold(lot, true));
      Check.refuses("letting go lot " + lot, STATE, LotCallsTest::doneWaitingEnded, t -> t.hold(lot, false));
    }
  }

  private static void promise9Scrap() {
    LotTracker x = fab(3, 1);
    Check.due("scrap", 2, x.scrap(1));
    Check.due("lot of the wafer", LotTracker.NONE, x.lotOf(1));
    Check.due("size", 2, x.size(0));
    Check.due("wafers there were", 4, x.wafers());
    Check.due("the other wafers stay", 0, x.lotOf(2));
    x.hold(0, true);
    Check.due("scrap in a held lot", 1, x.scrap(0));
    Check.due("state", LotTracker.WAITING, x.state(0));
    Check.due("the last wafer", 0, x.scrap(2));
    Check.due("state", LotTracker.ENDED, x.state(0));
    Check.due("step", LotTracker.NONE, x.stepOf(0));
    Check.due("path of a scrapped wafer", 1, x.path(2));
    x.advance(21);
    Check.due("scrap in a late lot", 0, x.scrap(3));
    LotTracker y = fab(4);
    y.scrap(0);
    y.split(0, 1);
    Check.due("a split takes no scrapped wafer", 1, y.lotOf(1));
    Check.due("a scrapped wafer stays scrapped", LotTracker.NONE, y.lotOf(0));
    y.merge(0, 1);
    Check.due("a merge takes no scrapped wafer", LotTracker.NONE, y.lotOf(0));
  }

  private static void promise9Refusals() {
    for (int wafer : new int[] {-1, 3, MIN, MAX}) {
      Check.refuses("scrap " + wafer, INDEX, () -> fab(2, 1), t -> t.scrap(wafer));
    }
    Check.refuses("scrap again", STATE, after(() -> fab(2), t -> t.scrap(1)), t -> t.scrap(1));
    Check.refuses("scrap again in a lot that is ENDED", STATE, after(() -> fab(1), t -> t.scrap(0)), t -> t.scrap(0));
    Check.refuses("scrap in a RUNNING lot", STATE, after(() -> fab(2), t -> t.start(0)), t -> t.scrap(1));
    Check.refuses("scrap in a DONE lot", STATE, LotCallsTest::doneWaitingEnded, t -> t.scrap(0));
  }

  private static void promise10Advance() {
    LotTracker x = fab(1, 1);
    x.start(0);
    Check.due("short of the end", 0, x.advance(9));
    Check.due("time", 9, x.time());
    Check.due("state", LotTracker.RUNNING, x.state(0));
    Check.due("at the end", 1, x.advance(1));
    Check.due("state", LotTracker.WAITING, x.state(0));
    Check.due("step", 1, x.stepOf(0));
    x.start(0);
    x.start(1);
    Check.due("nothing more by 4 minutes", 0, x.advance(4));
    Check.due("both by 6 minutes", 2, x.advance(6));
    Check.due("nothing runs", 0, x.advance(10000));
    Check.due("time", 10020, x.time());
    Check.due("the least", 0, x.advance(1));
    Check.due("time", 10021, x.time());
  }

  private static void promise10WaitsSinceTheEnd() {
    LotTracker x = new LotTracker();
    x.addStep(0, 10, 0, 0);
    x.addStep(1, 5, 50, 0);
    x.enter(1);
    x.start(0);
    x.advance(37);
    Check.due("it has waited since 10", 23, x.slack(0));
    Check.due("it has waited at the next step alone", LotTracker.WAITING, x.state(0));
    x.start(0);
    x.advance(5);
    Check.due("behind the last step", LotTracker.DONE, x.state(0));
    Check.due("its wafers", 1, x.size(0));
    LotTracker late = new LotTracker();
    late.addStep(0, 10, 0, 0);
    late.addStep(1, 5, 50, 0);
    late.enter(1);
    late.start(0);
    late.advance(61);
    Check.due("late as soon as told of", true, late.isLate(0));
  }

  private static void promise10Refusals() {
    for (int minutes : new int[] {0, -1, 10001, MIN, MAX}) {
      Check.refuses("advance " + minutes, ARGUMENT, after(() -> fab(1), t -> t.start(0)), t -> t.advance(minutes));
    }
  }
}
