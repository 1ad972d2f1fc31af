import java.util.ArrayList;
import java.util.List;
import java.util.TreeSet;

/** The document said a second time, in objects and lists, to be compared with the class over long runs. */
final class Model {
  private record Step(int number, int tool, int minutes, int limit, int back) {
  }

  private static final class Lot {
    final int number;
    final Lot parent;
    final TreeSet<Integer> wafers = new TreeSet<>();
    Step step;
    boolean runs;
    int since;
    int end;
    boolean isHeld;
    int reworks;

    Lot(int number, Lot parent, Step step, int since) {
      this.number = number;
      this.parent = parent;
      this.step = step;
      this.since = since;
    }

    boolean waits() {
      return step != null && !runs;
    }

    boolean isLate(int now) {
      return waits() && step.limit > 0 && now - since > step.limit;
    }

    boolean runsOn(int tool) {
      return runs && step.tool == tool;
    }

    List<Lot> withAncestors() {
      List<Lot> row = new ArrayList<>();
      for (Lot lot = this; lot != null; lot = lot.parent) {
        row.add(lot);
      }
      return row;
    }
  }

  private final List<Step> steps = new ArrayList<>();
  private final List<Lot> lots = new ArrayList<>();
  private final List<List<Lot>> paths = new ArrayList<>();
  private final TreeSet<Integer> scrapped = new TreeSet<>();
  private int now = 0;

  /** The answer as a number, or the exception, thrown. */
  long call(String name, int a, int b, int c, int d) {
    switch (name) {
      case "addStep": return addStep(a, b, c, d);
      case "enter": return enter(a);
      case "start": return start(a);
      case "rework": return rework(a);
      case "split": return split(a, b);
      case "merge": return merge(a, b);
      case "hold": return hold(a, b != 0);
      case "scrap": return scrap(a);
      case "advance": return advance(a);
      case "time": return now;
      case "lots": return lots.size();
      case "wafers": return paths.size();
      case "state": return state(lot(a));
      case "stepOf": return lot(a).step == null ? -1 : lot(a).step.number;
      case "size": return lot(a).wafers.size();
      case "slack": return slack(lot(a));
      case "isLate": return lot(a).isLate(now) ? 1 : 0;
      case "reworks": return lot(a).reworks;
      case "nextFor": return nextFor(a);
      case "wafersAt":
      case "wafersAtByWafers": return wafersAt(a);
      case "lotOf": return lotOf(a);
      case "parentOf": return lot(a).parent == null ? -1 : lot(a).parent.number;
      case "common": return common(lot(a), lot(b));
      case "path": return pathOf(a).size();
      case "pathAt": return pathAt(a, b);
      default: throw new AssertionError(name);
    }
  }

  private static void refuseIndexIf(boolean wrong) {
    if (wrong) {
      throw new IndexOutOfBoundsException();
    }
  }

  private static void refuseArgumentIf(boolean wrong) {
    if (wrong) {
      throw new IllegalArgumentException();
    }
  }

  private static void refuseStateIf(boolean wrong) {
    if (wrong) {
      throw new IllegalStateException();
    }
  }

  private Lot lot(int number) {
    refuseIndexIf(number < 0 || number >= lots.size());
    return lots.get(number);
  }

  private List<Lot> pathOf(int wafer) {
    refuseIndexIf(wafer < 0 || wafer >= paths.size());
    return paths.get(wafer);
  }

  private boolean isTaken(int tool) {
    return lots.stream().anyMatch(lot -> lot.runsOn(tool));
  }

  private void move(int wafer, Lot from, Lot to) {
    from.wafers.remove(wafer);
    to.wafers.add(wafer);
    paths.get(wafer).add(to);
  }

  private int addStep(int tool, int minutes, int limit, int back) {
    refuseIndexIf(tool < 0 || tool > 5);
    refuseArgumentIf(minutes < 1 || minutes > 1000);
    refuseArgumentIf(limit < 0 || limit > 10000);
    refuseArgumentIf(back < 0 || back > steps.size());
    refuseStateIf(steps.size() == 12 || !lots.isEmpty());
    steps.add(new Step(steps.size(), tool, minutes, limit, back));
    return steps.size() - 1;
  }

  private int enter(int wafers) {
    refuseArgumentIf(wafers < 1 || wafers > 12);
    refuseStateIf(steps.isEmpty() || lots.size() == 24 || paths.size() + wafers > 60);
    Lot lot = new Lot(lots.size(), null, steps.get(0), now);
    lots.add(lot);
    for (int i = 0; i < wafers; i++) {
      lot.wafers.add(paths.size());
      paths.add(new ArrayList<>(List.of(lot)));
    }
    return lot.number;
  }

  private int start(int number) {
    Lot lot = lot(number);
    refuseStateIf(!lot.waits() || lot.isHeld || lot.isLate(now) || isTaken(lot.step.tool));
    lot.runs = true;
    lot.end = now + lot.step.minutes;
    return lot.end;
  }

  private int rework(int number) {
    Lot lot = lot(number);
    refuseStateIf(!lot.waits() || lot.isHeld || lot.reworks == 2);
    lot.step = steps.get(lot.step.back);
    lot.since = now;
    lot.reworks++;
    return lot.step.number;
  }

  private int split(int number, int count) {
    Lot lot = lot(number);
    refuseArgumentIf(count < 1 || count >= lot.wafers.size());
    refuseStateIf(!lot.waits() || lots.size() == 24);
    Lot child = new Lot(lots.size(), lot, lot.step, lot.since);
    child.isHeld = lot.isHeld;
    child.reworks = lot.reworks;
    lots.add(child);
    for (int i = 0; i < count; i++) {
      move(lot.wafers.first(), lot, child);
    }
    return child.number;
  }

  private int merge(int number, int into) {
    Lot lot = lot(number);
    Lot other = lot(into);
    refuseArgumentIf(lot == other);
    refuseStateIf(!lot.waits() || !other.waits() || lot.isHeld || other.isHeld || lot.step != other.step);
    other.since = lot.since < other.since ? lot.since : other.since;
    other.reworks = lot.reworks > other.reworks ? lot.reworks : other.reworks;
    for (int wafer : new ArrayList<>(lot.wafers)) {
      move(wafer, lot, other);
    }
    lot.step = null;
    return other.wafers.size();
  }

  private int hold(int number, boolean isHeld) {
    Lot lot = lot(number);
    refuseStateIf(lot.step == null);
    boolean was = lot.isHeld;
    lot.isHeld = isHeld;
    return was ? 1 : 0;
  }

  private int scrap(int wafer) {
    Lot lot = pathOf(wafer).get(pathOf(wafer).size() - 1);
    refuseStateIf(scrapped.contains(wafer) || !lot.waits());
    scrapped.add(wafer);
    lot.wafers.remove(wafer);
    if (lot.wafers.isEmpty()) {
      lot.step = null;
    }
    return lot.wafers.size();
  }

  private int advance(int minutes) {
    refuseArgumentIf(minutes < 1 || minutes > 10000);
    int count = 0;
    for (int minute = 0; minute < minutes; minute++) {
      now++;
      for (Lot lot : lots) {
        if (lot.runs && lot.end == now) {
          lot.runs = false;
          lot.since = now;
          lot.step = lot.step.number + 1 < steps.size() ? steps.get(lot.step.number + 1) : null;
          count++;
        }
      }
    }
    return count;
  }

  private static int state(Lot lot) {
    if (lot.wafers.isEmpty()) {
      return LotTracker.ENDED;
    }
    return lot.step == null ? LotTracker.DONE : lot.runs ? LotTracker.RUNNING : LotTracker.WAITING;
  }

  private int slack(Lot lot) {
    if (!lot.waits()) {
      return 2000000;
    }
    return lot.step.limit == 0 ? 1000000 : lot.since + lot.step.limit - now;
  }

  private int nextFor(int tool) {
    refuseIndexIf(tool < 0 || tool > 5);
    if (isTaken(tool)) {
      return -1;
    }
    return lots.stream()
        .filter(lot -> lot.waits() && lot.step.tool == tool && !lot.isHeld && !lot.isLate(now))
        .sorted((one, two) -> slack(one) != slack(two) ? slack(one) - slack(two) : one.number - two.number)
        .map(lot -> lot.number).findFirst().orElse(-1);
  }

  private int wafersAt(int step) {
    refuseIndexIf(step < 0 || step >= steps.size());
    return lots.stream().filter(lot -> lot.step == steps.get(step)).mapToInt(lot -> lot.wafers.size()).sum();
  }

  private int lotOf(int wafer) {
    List<Lot> path = pathOf(wafer);
    return scrapped.contains(wafer) ? -1 : path.get(path.size() - 1).number;
  }

  private static int common(Lot lot, Lot other) {
    List<Lot> others = other.withAncestors();
    for (Lot one : lot.withAncestors()) {
      if (others.contains(one)) {
        return one.number;
      }
    }
    return -1;
  }

  private int pathAt(int wafer, int place) {
    List<Lot> path = pathOf(wafer);
    refuseIndexIf(place < 0 || place >= path.size());
    return path.get(place).number;
  }
}
