/** All that a tracker tells of itself, as one text; a hold is seen by letting go and holding again. */
final class Portrait {
  private final LotTracker tracker;
  private final StringBuilder text = new StringBuilder();

  private Portrait(LotTracker tracker) {
    this.tracker = tracker;
  }

  static String of(LotTracker tracker) {
    Portrait portrait = new Portrait(tracker);
    portrait.text.append("time ").append(tracker.time());
    for (int lot = 0; lot < tracker.lots(); lot++) {
      portrait.addLot(lot);
    }
    for (int wafer = 0; wafer < tracker.wafers(); wafer++) {
      portrait.addWafer(wafer);
    }
    portrait.addTools();
    portrait.addSteps();
    return portrait.text.toString();
  }

  private void addLot(int lot) {
    text.append("; lot ").append(lot)
        .append(": state ").append(tracker.state(lot))
        .append(" step ").append(tracker.stepOf(lot))
        .append(" size ").append(tracker.size(lot))
        .append(" slack ").append(tracker.slack(lot))
        .append(" reworks ").append(tracker.reworks(lot))
        .append(" parent ").append(tracker.parentOf(lot));
    if (tracker.stepOf(lot) != LotTracker.NONE) {
      boolean isHeld = tracker.hold(lot, false);
      tracker.hold(lot, isHeld);
      text.append(isHeld ? " held" : " free");
    }
  }

  private void addWafer(int wafer) {
    text.append("; wafer ").append(wafer).append(": lot ").append(tracker.lotOf(wafer)).append(" path");
    int length = tracker.path(wafer);
    for (int place = 0; place < length; place++) {
      text.append(' ').append(tracker.pathAt(wafer, place));
    }
  }

  private void addTools() {
    text.append("; next");
    for (int tool = 0; tool < 6; tool++) {
      text.append(' ').append(tracker.nextFor(tool));
    }
  }

  private void addSteps() {
    text.append("; at steps");
    for (int step = 0; step < 12; step++) {
      int at = step;
      text.append(' ').append(Check.answer(tracker, t -> t.wafersAt(at)));
    }
  }
}
