import java.util.List;
import java.util.function.BiFunction;

/** Promises 11 to 22: what there is. */
public final class QueriesTest {
  private static final Class<IndexOutOfBoundsException> INDEX = IndexOutOfBoundsException.class;
  private static final int MIN = Integer.MIN_VALUE, MAX = Integer.MAX_VALUE;

  public static void main(String[] args) {
    promise11Time();
    promises12And13LotsAndWafers();
    promises14To16StateStepSize();
    promises17And18SlackAndIsLate();
    promise19Reworks();
    promise20LeastSlack();
    promise20WhatIsPassedOver();
    promises21And22WafersAt();
    promises20To22OfAFullObject();
    wrongInputs();
    Check.end("QueriesTest");
  }

  /** Steps 0 and 2 on tool 3, with the limits 20 and 5; step 1 on tool 4, with none. */
  private static LotTracker fab() {
    LotTracker x = new LotTracker();
    x.addStep(3, 10, 20, 0);
    x.addStep(4, 1, 0, 0);
    x.addStep(3, 10, 5, 0);
    return x;
  }

  private static void promise11Time() {
    LotTracker x = fab();
    x.advance(1);
    x.advance(10000);
    x.enter(1);
    x.start(0);
    Check.due("time", 10001, x.time());
    for (int i = 0; i < 500; i++) {
      x.advance(10000);
    }
    Check.due("the time of a long run", 5010001, x.time());
  }

  private static void promises12And13LotsAndWafers() {
    LotTracker x = fab();
    x.enter(5);
    x.enter(2);
    Check.due("lots by enter", 2, x.lots());
    Check.due("wafers by enter", 7, x.wafers());
    x.split(0, 2);
    Check.due("lots by split", 3, x.lots());
    x.merge(0, 1);
    Check.due("lots after a merge", 3, x.lots());
    x.scrap(0);
    x.scrap(1);
    Check.due("lots after one is ENDED", 3, x.lots());
    Check.due("wafers after split, merge and scrap", 7, x.wafers());
  }

  private static void dueLot(String what, LotTracker x, int lot, int state, int step, int size) {
    Check.due("state " + what, state, x.state(lot));
    Check.due("step " + what, step, x.stepOf(lot));
    Check.due("size " + what, size, x.size(lot));
  }

  private static void promises14To16StateStepSize() {
    LotTracker x = fab();
    x.enter(3);
    x.enter(1);
    dueLot("of a new lot", x, 0, LotTracker.WAITING, 0, 3);
    x.start(0);
    dueLot("while it runs", x, 0, LotTracker.RUNNING, 0, 3);
    x.advance(10);
    dueLot("at the next step", x, 0, LotTracker.WAITING, 1, 3);
    x.scrap(1);
    x.start(0);
    dueLot("while it runs there", x, 0, LotTracker.RUNNING, 1, 2);
    x.advance(1);
    x.start(0);
    x.advance(10);
    dueLot("behind the last step", x, 0, LotTracker.DONE, LotTracker.NONE, 2);
    x.scrap(3);
    dueLot("without wafers", x, 1, LotTracker.ENDED, LotTracker.NONE, 0);
  }

  private static void promises17And18SlackAndIsLate() {
    LotTracker x = fab();
    x.enter(1);
    Check.due("slack at once", 20, x.slack(0));
    x.advance(20);
    Check.due("slack at the limit", 0, x.slack(0));
    Check.due("late at the limit", false, x.isLate(0));
    x.advance(1);
    Check.due("slack behind the limit", -1, x.slack(0));
    Check.due("late behind the limit", true, x.isLate(0));
    x.advance(10000);
    Check.due("slack far behind the limit", -10001, x.slack(0));
    x.rework(0);
    x.start(0);
    Check.due("slack while it runs", 2000000, x.slack(0));
    Check.due("late while it runs", false, x.isLate(0));
    x.advance(10);
    x.advance(10000);
    Check.due("slack where there is no limit", 1000000, x.slack(0));
    Check.due("late where there is no limit", false, x.isLate(0));
    x.start(0);
    x.advance(6);
    x.start(0);
    x.advance(100);
    Check.due("slack of a DONE lot", 2000000, x.slack(0));
    Check.due("late of a DONE lot", false, x.isLate(0));
    x.enter(1);
    x.scrap(1);
    x.advance(100);
    Check.due("slack of an ENDED lot", 2000000, x.slack(1));
    Check.due("late of an ENDED lot", false, x.isLate(1));
  }

  private static void promise19Reworks() {
    LotTracker x = fab();
    x.enter(2);
    Check.due("reworks of a new lot", 0, x.reworks(0));
    x.rework(0);
    Check.due("reworks", 1, x.reworks(0));
    x.start(0);
    x.advance(10);
    Check.due("reworks at another step", 1, x.reworks(0));
    x.rework(0);
    Check.due("reworks from there", 2, x.reworks(0));
    Check.due("back at step 0", 0, x.stepOf(0));
    x.start(0);
    x.advance(10);
    x.start(0);
    x.advance(1);
    x.start(0);
    x.advance(10);
    Check.due("reworks of a DONE lot", 2, x.reworks(0));
  }

  private static void promise20LeastSlack() {
    LotTracker x = fab();
    x.enter(1);
    x.start(0);
    x.advance(10);
    x.start(0);
    x.advance(1);
    x.enter(1);
    x.enter(1);
    Check.due("slack 5 at step 2 before 20 at step 0", 0, x.nextFor(3));
    x.start(0);
    Check.due("the tool processes a lot", LotTracker.NONE, x.nextFor(3));
    x.advance(10);
    Check.due("of two with the same slack the lower number", 1, x.nextFor(3));
    x.rework(1);
    Check.due("a rework makes the slack more", 2, x.nextFor(3));
    x.enter(1);
    Check.due("not the newest", 2, x.nextFor(3));
    LotTracker mixed = new LotTracker();
    mixed.addStep(0, 1, 0, 0);
    mixed.addStep(0, 1, 10000, 1);
    mixed.enter(1);
    mixed.enter(1);
    Check.due("without a limit the lower number", 0, mixed.nextFor(0));
    mixed.start(1);
    mixed.advance(1);
    Check.due("a limit before none", 1, mixed.nextFor(0));
  }

  private static void promise20WhatIsPassedOver() {
    LotTracker x = fab();
    x.enter(1);
    x.advance(4);
    x.enter(1);
    Check.due("lot 0 has waited more", 0, x.nextFor(3));
    Check.due("no lot at the steps of another tool", LotTracker.NONE, x.nextFor(4));
    x.hold(0, true);
    Check.due("held", 1, x.nextFor(3));
    x.hold(0, false);
    x.advance(16);
    Check.due("at the limit", 0, x.nextFor(3));
    x.advance(1);
    Check.due("late", 1, x.nextFor(3));
    x.advance(3);
    Check.due("at the limit too", 1, x.nextFor(3));
    x.advance(1);
    Check.due("both late", LotTracker.NONE, x.nextFor(3));
    x.rework(1);
    x.start(1);
    x.advance(10);
    Check.due("at the other tool", 1, x.nextFor(4));
    x.start(1);
    x.rework(0);
    Check.due("another tool runs", 0, x.nextFor(3));
    x.scrap(0);
    Check.due("ENDED", LotTracker.NONE, x.nextFor(3));
    x.advance(1);
    x.start(1);
    x.advance(10);
    Check.due("DONE", LotTracker.NONE, x.nextFor(3));
  }

  private static void dueWafersAt(LotTracker x, int... want) {
    for (int step = 0; step < want.length; step++) {
      Check.due("wafersAt " + step, want[step], x.wafersAt(step));
      Check.due("wafersAtByWafers " + step, want[step], x.wafersAtByWafers(step));
    }
  }

  private static void promises21And22WafersAt() {
    LotTracker x = fab();
    dueWafersAt(x, 0, 0, 0);
    x.enter(4);
    x.enter(3);
    dueWafersAt(x, 7, 0, 0);
    x.start(0);
    dueWafersAt(x, 7, 0, 0);
    x.advance(10);
    dueWafersAt(x, 3, 4, 0);
    x.split(0, 1);
    x.scrap(0);
    dueWafersAt(x, 3, 3, 0);
    x.start(0);
    x.advance(1);
    x.enter(2);
    x.merge(1, 3);
    dueWafersAt(x, 5, 0, 3);
    x.start(0);
    dueWafersAt(x, 5, 0, 3);
    x.advance(10);
    dueWafersAt(x, 5, 0, 0);
  }

  private static void promises20To22OfAFullObject() {
    LotTracker x = fab();
    for (int lot = 0; lot < 24; lot++) {
      x.enter(lot < 12 ? 2 : 3);
    }
    Check.due("all wafers", 60, x.wafers());
    dueWafersAt(x, 60, 0, 0);
    Check.due("the first of 24 lots", 0, x.nextFor(3));
    for (int lot = 0; lot < 23; lot++) {
      x.hold(lot, true);
    }
    Check.due("the last of 24 lots", 23, x.nextFor(3));
    x.start(23);
    Check.due("the last lot runs", LotTracker.NONE, x.nextFor(3));
    Check.due("the last lot ends its processing", 1, x.advance(10));
    dueWafersAt(x, 57, 3, 0);
    Check.due("scrap of the last wafer", 2, x.scrap(59));
    dueWafersAt(x, 57, 2, 0);
  }

  private static void wrongInputs() {
    List<String> names = List.of("state", "stepOf", "size", "slack", "isLate", "reworks", "nextFor", "wafersAt",
        "wafersAtByWafers");
    List<BiFunction<LotTracker, Integer, Object>> calls = List.of(LotTracker::state, LotTracker::stepOf,
        LotTracker::size, LotTracker::slack, LotTracker::isLate, LotTracker::reworks, LotTracker::nextFor,
        LotTracker::wafersAt, LotTracker::wafersAtByWafers);
    for (int i = 0; i < calls.size(); i++) {
      BiFunction<LotTracker, Integer, Object> call = calls.get(i);
      int behindTheLast = names.get(i).equals("nextFor") ? 6 : names.get(i).startsWith("wafersAt") ? 3 : 2;
      for (int wrong : new int[] {-1, behindTheLast, MIN, MAX}) {
        Check.refuses(names.get(i) + " " + wrong, INDEX, () -> {
          LotTracker x = fab();
          x.enter(1);
          x.enter(2);
          return x;
        }, t -> call.apply(t, wrong));
      }
    }
  }
}
