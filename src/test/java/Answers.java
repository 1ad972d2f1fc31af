import java.util.ArrayList;
import java.util.List;
import java.util.function.Function;
import java.util.function.Supplier;

/**
 * Every answer of a tracker, as lines: those of all questions, those of calls that change it, and those of a run that
 * goes on from there. Each part is asked of an object of its own, so that none is used for more than 512 calls and the
 * changes of one part are not seen by another.
 */
final class Answers {
  private final Supplier<LotTracker> setup;
  private final List<String> lines = new ArrayList<>();
  private final int lots;
  private final int wafers;
  private LotTracker tracker;

  private Answers(Supplier<LotTracker> setup) {
    this.setup = setup;
    this.tracker = setup.get();
    this.lots = tracker.lots();
    this.wafers = tracker.wafers();
  }

  static List<String> of(Supplier<LotTracker> setup) {
    Answers answers = new Answers(setup);
    answers.askCountsToolsAndSteps();
    for (int lot = -1; lot <= answers.lots; lot++) {
      answers.askLot(lot);
      answers.changeLot(lot);
    }
    for (int wafer = -1; wafer <= answers.wafers; wafer++) {
      answers.askWafer(wafer);
      answers.change("scrap " + wafer, scrapOf(wafer));
    }
    answers.change("addStep", t -> t.addStep(5, 1000, 10000, 0));
    answers.change("enter 1", t -> t.enter(1));
    answers.change("enter 12", t -> t.enter(12));
    answers.change("advance 1", t -> t.advance(1));
    answers.change("advance 10000", t -> t.advance(10000));
    answers.goOn();
    for (int steps = 0; steps < 12; steps++) {
      answers.goOnWithOneLot(steps);
    }
    return answers.lines;
  }

  private void ask(String what, Function<LotTracker, Object> call) {
    lines.add(what + " -> " + Check.answer(tracker, call));
  }

  private void change(String what, Function<LotTracker, Object> call) {
    tracker = setup.get();
    ask(what, call);
  }

  private static Function<LotTracker, Object> scrapOf(int wafer) {
    return t -> t.scrap(wafer);
  }

  private void askCountsToolsAndSteps() {
    tracker = setup.get();
    ask("time", LotTracker::time);
    ask("lots", LotTracker::lots);
    ask("wafers", LotTracker::wafers);
    for (int i = -1; i <= 6; i++) {
      int tool = i;
      ask("nextFor " + tool, t -> t.nextFor(tool));
    }
    for (int i = -1; i <= 12; i++) {
      int step = i;
      ask("wafersAt " + step, t -> t.wafersAt(step));
      ask("wafersAtByWafers " + step, t -> t.wafersAtByWafers(step));
    }
  }

  private void askLot(int lot) {
    tracker = setup.get();
    ask("state " + lot, t -> t.state(lot));
    ask("stepOf " + lot, t -> t.stepOf(lot));
    ask("size " + lot, t -> t.size(lot));
    ask("slack " + lot, t -> t.slack(lot));
    ask("isLate " + lot, t -> t.isLate(lot));
    ask("reworks " + lot, t -> t.reworks(lot));
    ask("parentOf " + lot, t -> t.parentOf(lot));
    for (int i = -1; i <= lots; i++) {
      int other = i;
      ask("common " + lot + " " + other, t -> t.common(lot, other));
    }
  }

  private void askWafer(int wafer) {
    tracker = setup.get();
    ask("lotOf " + wafer, t -> t.lotOf(wafer));
    ask("path " + wafer, t -> t.path(wafer));
    int length = wafer >= 0 && wafer < wafers ? tracker.path(wafer) : 0;
    for (int i = -1; i <= length; i++) {
      int place = i;
      ask("pathAt " + wafer + " " + place, t -> t.pathAt(wafer, place));
    }
  }

  private void changeLot(int lot) {
    change("start " + lot, t -> t.start(lot));
    change("rework " + lot, t -> t.rework(lot));
    change("split " + lot, t -> t.split(lot, 1));
    change("merge into the next " + lot, t -> t.merge(lot, lot + 1));
    change("merge into the first " + lot, t -> t.merge(lot, 0));
    change("hold " + lot, t -> t.hold(lot, true));
    change("let go " + lot, t -> t.hold(lot, false));
  }

  // What a step keeps is seen only when lots come to it.
  private void goOn() {
    tracker = setup.get();
    ask("enter 2", t -> t.enter(2));
    for (int round = 0; round < 20; round++) {
      for (int i = 0; i < 6; i++) {
        int tool = i;
        ask("start the next on " + tool, t -> startNext(t, tool));
      }
      ask("advance 7", t -> t.advance(7));
    }
  }

  // A lot that goes on at once sees the minutes and the limit of each step, and at its last one where rework goes.
  private void goOnWithOneLot(int steps) {
    tracker = setup.get();
    ask("enter 1", t -> t.enter(1));
    int lot = tracker.lots() - 1;
    for (int step = 0; step < steps; step++) {
      ask("run " + lot, t -> run(t, lot));
    }
    ask("slack " + lot, t -> t.slack(lot));
    ask("rework " + lot, t -> t.rework(lot));
  }

  private static int run(LotTracker t, int lot) {
    int minutes = t.start(lot) - t.time();
    t.advance(minutes);
    return minutes;
  }

  private static String startNext(LotTracker t, int tool) {
    int lot = t.nextFor(tool);
    return lot == LotTracker.NONE ? "none" : lot + " until " + t.start(lot);
  }
}
