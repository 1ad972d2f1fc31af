public final class LotTracker {
  public static final int NONE = -1;
  public static final int WAITING = 0, RUNNING = 1, DONE = 2, ENDED = 3;

  private static final int TOOLS = 6;
  private static final int MAX_STEPS = 12;
  private static final int MAX_LOTS = 24;
  private static final int MAX_WAFERS = 60;

  private static final int MAX_PROCESSING = 1000;
  private static final int MAX_LIMIT = 10000;
  private static final int MAX_ENTERING = 12;
  private static final int MAX_REWORKS = 2;
  private static final int MAX_ADVANCE = 10000;

  private static final int SLACK_IF_NO_LIMIT = 1000000;
  private static final int SLACK_IF_NOT_WAITING = 2000000;

  // A wafer moves by splits and merges alone: a split needs a new lot and a merge ends one for good,
  // so with one lot to enter in and one to be left in there are at most 23 moves of each kind.
  private static final int MAX_PATH = 2 * MAX_LOTS - 1;

  private final int[] stepTool = new int[MAX_STEPS];
  private final int[] stepMinutes = new int[MAX_STEPS];
  private final int[] stepLimit = new int[MAX_STEPS];
  private final int[] stepBack = new int[MAX_STEPS];
  private int stepCount = 0;

  private final int[] lotState = new int[MAX_LOTS];
  private final int[] lotStep = new int[MAX_LOTS];
  // Since when a lot waits, or when its processing ends: the end of the one is the beginning of the other.
  private final int[] lotMoment = new int[MAX_LOTS];
  private final boolean[] lotHeld = new boolean[MAX_LOTS];
  private final int[] lotReworks = new int[MAX_LOTS];
  private final int[] lotParent = new int[MAX_LOTS];
  private final int[] lotSize = new int[MAX_LOTS];
  private int lotCount = 0;

  private final int[] waferLot = new int[MAX_WAFERS];
  private final int[][] waferPath = new int[MAX_WAFERS][MAX_PATH];
  private final int[] waferPathLength = new int[MAX_WAFERS];
  private int waferCount = 0;

  private int now = 0;

  public LotTracker() {
  }

  // ---- the route

  public int addStep(int tool, int minutes, int limit, int back)
      throws IndexOutOfBoundsException, IllegalArgumentException, IllegalStateException {
    checkTool(tool);
    if (!isWithin(minutes, 1, MAX_PROCESSING) || !isWithin(limit, 0, MAX_LIMIT) || !isWithin(back, 0, stepCount)) {
      throw new IllegalArgumentException("minutes, limit or back is out of range");
    }
    if (stepCount >= MAX_STEPS || lotCount > 0) {
      throw new IllegalStateException("the route takes no more steps");
    }
    int step = stepCount;
    stepTool[step] = tool;
    stepMinutes[step] = minutes;
    stepLimit[step] = limit;
    stepBack[step] = back;
    stepCount = step + 1;
    return step;
  }

  // ---- lots

  public int enter(int wafers) throws IllegalArgumentException, IllegalStateException {
    if (!isWithin(wafers, 1, MAX_ENTERING)) {
      throw new IllegalArgumentException("wafers is out of range");
    }
    if (stepCount == 0 || lotCount >= MAX_LOTS || waferCount + wafers > MAX_WAFERS) {
      throw new IllegalStateException("there is no step, or no room for the lot or its wafers");
    }
    int lot = makeLot(0, now, false, 0, NONE);
    for (int i = 0; i < wafers; i++) {
      makeWafer(lot);
    }
    return lot;
  }

  public int start(int lot) throws IndexOutOfBoundsException, IllegalStateException {
    checkLot(lot);
    int step = lotStep[lot];
    if (!isReady(lot) || !isStep(step) || isBusy(stepTool[step])) {
      throw new IllegalStateException("the lot can't run now");
    }
    lotState[lot] = RUNNING;
    lotMoment[lot] = now + stepMinutes[step];
    return lotMoment[lot];
  }

  public int rework(int lot) throws IndexOutOfBoundsException, IllegalStateException {
    checkLot(lot);
    int step = lotStep[lot];
    if (!isFree(lot) || !isStep(step) || lotReworks[lot] >= MAX_REWORKS) {
      throw new IllegalStateException("the lot can't be reworked now");
    }
    lotStep[lot] = stepBack[step];
    lotMoment[lot] = now;
    lotReworks[lot]++;
    return lotStep[lot];
  }

  public int split(int lot, int wafers)
      throws IndexOutOfBoundsException, IllegalArgumentException, IllegalStateException {
    checkLot(lot);
    if (!isWithin(wafers, 1, lotSize[lot] - 1)) {
      throw new IllegalArgumentException("wafers is out of range");
    }
    if (lotState[lot] != WAITING || lotCount >= MAX_LOTS) {
      throw new IllegalStateException("the lot is not WAITING, or there were 24 lots");
    }
    int newLot = makeLot(lotStep[lot], lotMoment[lot], lotHeld[lot], lotReworks[lot], lot);
    moveWafers(lot, newLot, wafers);
    return newLot;
  }

  public int merge(int lot, int into)
      throws IndexOutOfBoundsException, IllegalArgumentException, IllegalStateException {
    checkLot(lot);
    checkLot(into);
    if (lot == into) {
      throw new IllegalArgumentException("both lots are the same");
    }
    if (!isFree(lot) || !isFree(into) || lotStep[lot] != lotStep[into]) {
      throw new IllegalStateException("the lots can't be merged now");
    }
    lotMoment[into] = Math.min(lotMoment[lot], lotMoment[into]);
    lotReworks[into] = Math.max(lotReworks[lot], lotReworks[into]);
    moveWafers(lot, into, lotSize[lot]);
    leaveRoute(lot, ENDED);
    return lotSize[into];
  }

  public boolean hold(int lot, boolean isHeld) throws IndexOutOfBoundsException, IllegalStateException {
    checkLot(lot);
    if (lotState[lot] == DONE || lotState[lot] == ENDED) {
      throw new IllegalStateException("the lot is DONE or ENDED");
    }
    boolean wasHeld = lotHeld[lot];
    lotHeld[lot] = isHeld;
    return wasHeld;
  }

  public int scrap(int wafer) throws IndexOutOfBoundsException, IllegalStateException {
    checkWafer(wafer);
    int lot = waferLot[wafer];
    if (!isLot(lot) || lotState[lot] != WAITING) {
      throw new IllegalStateException("the wafer was scrapped, or its lot is not WAITING");
    }
    waferLot[wafer] = NONE;
    lotSize[lot]--;
    if (lotSize[lot] == 0) {
      leaveRoute(lot, ENDED);
    }
    return lotSize[lot];
  }

  public int advance(int minutes) throws IllegalArgumentException {
    if (!isWithin(minutes, 1, MAX_ADVANCE)) {
      throw new IllegalArgumentException("minutes is out of range");
    }
    now += minutes;
    int count = 0;
    for (int lot = 0; lot < lotCount; lot++) {
      if (lotState[lot] == RUNNING && lotMoment[lot] <= now) {
        endProcessing(lot);
        count++;
      }
    }
    return count;
  }

  // ---- what there is

  public int time() {
    return now;
  }

  public int lots() {
    return lotCount;
  }

  public int wafers() {
    return waferCount;
  }

  public int state(int lot) throws IndexOutOfBoundsException {
    checkLot(lot);
    return lotState[lot];
  }

  public int stepOf(int lot) throws IndexOutOfBoundsException {
    checkLot(lot);
    return lotStep[lot];
  }

  public int size(int lot) throws IndexOutOfBoundsException {
    checkLot(lot);
    return lotSize[lot];
  }

  public int slack(int lot) throws IndexOutOfBoundsException {
    checkLot(lot);
    return waitingLeft(lot);
  }

  public boolean isLate(int lot) throws IndexOutOfBoundsException {
    checkLot(lot);
    return waitingLeft(lot) < 0;
  }

  public int reworks(int lot) throws IndexOutOfBoundsException {
    checkLot(lot);
    return lotReworks[lot];
  }

  public int nextFor(int tool) throws IndexOutOfBoundsException {
    checkTool(tool);
    if (isBusy(tool)) {
      return NONE;
    }
    int next = NONE;
    int leastSlack = SLACK_IF_NOT_WAITING;
    for (int lot = 0; lot < lotCount; lot++) {
      if (isReady(lot) && usesTool(lot, tool) && waitingLeft(lot) < leastSlack) {
        next = lot;
        leastSlack = waitingLeft(lot);
      }
    }
    return next;
  }

  public int wafersAt(int step) throws IndexOutOfBoundsException {
    checkStep(step);
    int count = 0;
    for (int lot = 0; lot < lotCount; lot++) {
      if (lotStep[lot] == step) {
        count += lotSize[lot];
      }
    }
    return count;
  }

  public int wafersAtByWafers(int step) throws IndexOutOfBoundsException {
    checkStep(step);
    int count = 0;
    for (int wafer = 0; wafer < waferCount; wafer++) {
      int lot = waferLot[wafer];
      if (isLot(lot) && lotStep[lot] == step) {
        count++;
      }
    }
    return count;
  }

  // ---- ancestry

  public int lotOf(int wafer) throws IndexOutOfBoundsException {
    checkWafer(wafer);
    return waferLot[wafer];
  }

  public int parentOf(int lot) throws IndexOutOfBoundsException {
    checkLot(lot);
    return lotParent[lot];
  }

  public int common(int lot, int other) throws IndexOutOfBoundsException {
    checkLot(lot);
    checkLot(other);
    int one = lot;
    int two = other;
    // A parent has a lower number than its lot, so of two unlike lots the higher one is no ancestor of the
    // lower one and can be left behind; NONE is the lowest of all and where both rows of ancestors end.
    for (int i = 0; i < 2 * MAX_LOTS && one != two; i++) {
      if (one > two) {
        one = parentOrNone(one);
      } else {
        two = parentOrNone(two);
      }
    }
    return one;
  }

  public int path(int wafer) throws IndexOutOfBoundsException {
    checkWafer(wafer);
    return waferPathLength[wafer];
  }

  public int pathAt(int wafer, int place) throws IndexOutOfBoundsException {
    checkWafer(wafer);
    if (!isWithin(place, 0, waferPathLength[wafer] - 1)) {
      throw new IndexOutOfBoundsException("the path has no such place");
    }
    return waferPath[wafer][place];
  }

  // ---- what arguments are

  private static boolean isWithin(int value, int least, int most) {
    return value >= least && value <= most;
  }

  private boolean isStep(int step) {
    return step >= 0 && step < stepCount;
  }

  private boolean isLot(int lot) {
    return lot >= 0 && lot < lotCount;
  }

  private static void checkTool(int tool) {
    if (!isWithin(tool, 0, TOOLS - 1)) {
      throw new IndexOutOfBoundsException("there is no such tool");
    }
  }

  private void checkStep(int step) {
    if (!isStep(step)) {
      throw new IndexOutOfBoundsException("there is no such step");
    }
  }

  private void checkLot(int lot) {
    if (!isLot(lot)) {
      throw new IndexOutOfBoundsException("there was no such lot");
    }
  }

  private void checkWafer(int wafer) {
    if (wafer < 0 || wafer >= waferCount) {
      throw new IndexOutOfBoundsException("there was no such wafer");
    }
  }

  // ---- what lots and tools are up to

  private boolean isFree(int lot) {
    return lotState[lot] == WAITING && !lotHeld[lot];
  }

  private boolean isReady(int lot) {
    return isFree(lot) && waitingLeft(lot) >= 0;
  }

  private boolean usesTool(int lot, int tool) {
    int step = lotStep[lot];
    return isStep(step) && stepTool[step] == tool;
  }

  private boolean isBusy(int tool) {
    for (int lot = 0; lot < lotCount; lot++) {
      if (lotState[lot] == RUNNING && usesTool(lot, tool)) {
        return true;
      }
    }
    return false;
  }

  private int waitingLeft(int lot) {
    int step = lotStep[lot];
    if (lotState[lot] != WAITING || !isStep(step)) {
      return SLACK_IF_NOT_WAITING;
    }
    if (stepLimit[step] == 0) {
      return SLACK_IF_NO_LIMIT;
    }
    return stepLimit[step] - (now - lotMoment[lot]);
  }

  private int parentOrNone(int lot) {
    return isLot(lot) ? lotParent[lot] : NONE;
  }

  // ---- changes; their callers have looked at all that could refuse them

  private int makeLot(int step, int since, boolean isHeld, int reworkCount, int parent) {
    int lot = lotCount;
    lotState[lot] = WAITING;
    lotStep[lot] = step;
    lotMoment[lot] = since;
    lotHeld[lot] = isHeld;
    lotReworks[lot] = reworkCount;
    lotParent[lot] = parent;
    lotSize[lot] = 0;
    lotCount = lot + 1;
    return lot;
  }

  private void makeWafer(int lot) {
    int wafer = waferCount;
    waferPathLength[wafer] = 0;
    waferCount = wafer + 1;
    putInto(wafer, lot);
  }

  private void putInto(int wafer, int lot) {
    waferLot[wafer] = lot;
    lotSize[lot]++;
    int place = waferPathLength[wafer];
    if (place < MAX_PATH) {
      waferPath[wafer][place] = lot;
      waferPathLength[wafer] = place + 1;
    }
  }

  // Wafers are looked at in the order of their numbers, so that the lowest ones move.
  private void moveWafers(int from, int to, int count) {
    int moved = 0;
    for (int wafer = 0; wafer < waferCount && moved < count; wafer++) {
      if (waferLot[wafer] == from) {
        lotSize[from]--;
        putInto(wafer, to);
        moved++;
      }
    }
  }

  private void leaveRoute(int lot, int finalState) {
    lotState[lot] = finalState;
    lotStep[lot] = NONE;
  }

  private void endProcessing(int lot) {
    int next = lotStep[lot] + 1;
    if (isStep(next)) {
      lotState[lot] = WAITING;
      lotStep[lot] = next;
    } else {
      leaveRoute(lot, DONE);
    }
  }
}
