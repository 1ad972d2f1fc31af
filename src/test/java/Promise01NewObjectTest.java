import java.util.function.Function;

public final class Promise01NewObjectTest {
  public static void main(String[] args) {
    Cases.run(Promise01NewObjectTest.class);
  }

  private static void refused(String what, Class<? extends RuntimeException> want, Function<LotTracker, Object> call) {
    Check.refuses(what + " of a new object", want, LotTracker::new, call);
  }

  static void promise1TheTimeIs0() {
    Check.due("time", 0, new LotTracker().time());
    LotTracker x = new LotTracker();
    Check.due("advance without steps and lots", 0, x.advance(1));
    Check.due("time passes from 0", 1, x.time());
  }

  static void promise1ThereAreNoLots() {
    Check.due("lots", 0, new LotTracker().lots());
    refused("start 0", Check.INDEX, t -> t.start(0));
    refused("rework 0", Check.INDEX, t -> t.rework(0));
    refused("split 0", Check.INDEX, t -> t.split(0, 1));
    refused("merge 0 into 1", Check.INDEX, t -> t.merge(0, 1));
    refused("hold 0", Check.INDEX, t -> t.hold(0, true));
    refused("state 0", Check.INDEX, t -> t.state(0));
    refused("stepOf 0", Check.INDEX, t -> t.stepOf(0));
    refused("size 0", Check.INDEX, t -> t.size(0));
    refused("slack 0", Check.INDEX, t -> t.slack(0));
    refused("isLate 0", Check.INDEX, t -> t.isLate(0));
    refused("reworks 0", Check.INDEX, t -> t.reworks(0));
    refused("parentOf 0", Check.INDEX, t -> t.parentOf(0));
    refused("common 0 0", Check.INDEX, t -> t.common(0, 0));
    for (int tool = 0; tool < 6; tool++) {
      Check.due("nextFor " + tool, LotTracker.NONE, new LotTracker().nextFor(tool));
    }
  }

  static void promise1ThereAreNoWafers() {
    Check.due("wafers", 0, new LotTracker().wafers());
    refused("scrap 0", Check.INDEX, t -> t.scrap(0));
    refused("lotOf 0", Check.INDEX, t -> t.lotOf(0));
    refused("path 0", Check.INDEX, t -> t.path(0));
    refused("pathAt 0 0", Check.INDEX, t -> t.pathAt(0, 0));
  }

  static void promise1ThereAreNoSteps() {
    refused("wafersAt 0", Check.INDEX, t -> t.wafersAt(0));
    refused("wafersAtByWafers 0", Check.INDEX, t -> t.wafersAtByWafers(0));
    refused("enter 1", Check.STATE, t -> t.enter(1));
    Check.due("the first step is the step 0", 0, new LotTracker().addStep(0, 1, 0, 0));
  }

  static void promise1TwoObjectsShareNothing() {
    LotTracker one = Fab.runningWaiting();
    one.advance(5);
    LotTracker two = new LotTracker();
    Check.due("time of the other", 0, two.time());
    Check.due("lots of the other", 0, two.lots());
    Check.due("wafers of the other", 0, two.wafers());
    Check.due("first step of the other", 0, two.addStep(0, 1, 0, 0));
    two.enter(4);
    two.start(0);
    two.advance(1);
    Check.due("size of the one", 3, one.size(0));
    Check.due("state of the one", LotTracker.RUNNING, one.state(0));
    Check.due("time of the one", 5, one.time());
  }
}
