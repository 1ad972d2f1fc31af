import java.util.ArrayList;
import java.util.List;
import java.util.Map;
import java.util.TreeMap;

/** Promises 1 to 27 together: long runs of calls, as many as an object is used for, compared with the model. */
public final class ModelTest {
  private static final int RUNS = 1500;
  private static final int CALLS = 512;

  private static final String[] CHANGES = {"start", "rework", "split", "merge", "hold", "scrap", "advance", "enter"};
  private static final String[] QUESTIONS = {"time", "lots", "wafers", "state", "stepOf", "size", "slack", "isLate",
      "reworks", "nextFor", "wafersAt", "wafersAtByWafers", "lotOf", "parentOf", "common", "path", "pathAt"};

  // The same sequence of numbers in every run of the tests.
  private long seed;
  private final LotTracker tracker = new LotTracker();
  private final Model model = new Model();
  private final List<String> told = new ArrayList<>();
  private final Map<String, Integer> answers;
  private final boolean isCalm;

  private ModelTest(long seed, Map<String, Integer> answers) {
    this.seed = seed * 7919 + 17;
    this.answers = answers;
    this.isCalm = seed % 2 == 0;
  }

  public static void main(String[] args) {
    Map<String, Integer> answers = new TreeMap<>();
    for (int run = 0; run < RUNS; run++) {
      if (!new ModelTest(run, answers).runIsRight()) {
        break;
      }
    }
    everyAnswerWasSeen(answers);
    Check.end("ModelTest");
  }

  private static void everyAnswerWasSeen(Map<String, Integer> answers) {
    String[] seldom = {"addStep ArgumentState", "enter ArgumentState", "start IndexState", "rework IndexState",
        "split IndexArgumentState", "merge IndexArgumentState", "hold IndexState", "scrap IndexState",
        "advance Argument"};
    for (String line : seldom) {
      String name = line.substring(0, line.indexOf(' '));
      for (String kind : new String[] {"answer", "Index", "Argument", "State"}) {
        if (kind.equals("answer") || line.contains(kind)) {
          Check.due(name + " with " + kind + " was seen often", true,
              answers.getOrDefault(name + " " + kind, 0) >= 100);
        }
      }
    }
    for (String name : QUESTIONS) {
      Check.due(name + " was answered often", true, answers.getOrDefault(name + " answer", 0) >= 100);
    }
  }

  private boolean runIsRight() {
    int steps = 1 + number(12);
    for (int call = 0; call < CALLS; call++) {
      boolean isRight = call < steps || number(60) == 0 ? addStep(call < steps)
          : number(2) == 0 ? change() : ask();
      if (!isRight) {
        return false;
      }
    }
    return true;
  }

  private int number(int bound) {
    seed = seed * 6364136223846793005L + 1442695040888963407L;
    return (int) ((seed >>> 33) % bound);
  }

  // Asked of the model, since the object is used for its 512 calls alone.
  private int lots() {
    return (int) model.call("lots", 0, 0, 0, 0);
  }

  private int wafers() {
    return (int) model.call("wafers", 0, 0, 0, 0);
  }

  private int among(int count) {
    return number(25) == 0 ? wild(count) : number(count > 0 ? count : 1);
  }

  private int wild(int count) {
    int[] choice = {-1, count, count + 1, Integer.MIN_VALUE, Integer.MAX_VALUE};
    return choice[number(choice.length)];
  }

  private boolean addStep(boolean isEarly) {
    int count = isEarly ? told.size() : 12;
    int minutes = number(20) == 0 ? wild(1001) : 1 + number(number(4) == 0 ? 1000 : 12);
    int limit = number(20) == 0 ? wild(10001) : number(3) == 0 ? 0 : number(number(4) == 0 ? 10001 : 60);
    return compare("addStep", among(number(2) == 0 ? 2 : 6), minutes, limit, among(count + 1));
  }

  private boolean change() {
    // A calm run has fewer calls that end a lot's way, so that it comes further along the route.
    String name = CHANGES[number(CHANGES.length)];
    if (isCalm && !name.equals("advance") && number(3) > 0) {
      name = "start";
    }
    int lot = among(lots());
    switch (name) {
      case "enter":
        return compare(name, number(20) == 0 ? wild(13) : 1 + number(number(3) == 0 ? 12 : 4), 0, 0, 0);
      case "split":
        return compare(name, lot, among(5), 0, 0);
      case "merge":
        return compare(name, lot, among(lots()), 0, 0);
      case "hold":
        return compare(name, lot, number(3) == 0 ? 1 : 0, 0, 0);
      case "scrap":
        return number(isCalm ? 6 : 2) > 0 || compare(name, among(wafers()), 0, 0, 0);
      case "advance":
        return compare(name, number(20) == 0 ? wild(10001) : 1 + number(number(40) == 0 ? 2000 : 15), 0, 0, 0);
      default:
        return compare(name, lot, 0, 0, 0);
    }
  }

  private boolean ask() {
    String name = QUESTIONS[number(QUESTIONS.length)];
    switch (name) {
      case "nextFor":
        return compare(name, among(6), 0, 0, 0);
      case "wafersAt":
      case "wafersAtByWafers":
        return compare(name, among(12), 0, 0, 0);
      case "lotOf":
      case "path":
        return compare(name, among(wafers()), 0, 0, 0);
      case "pathAt":
        return compare(name, among(wafers()), among(6), 0, 0);
      case "common":
        return compare(name, among(lots()), among(lots()), 0, 0);
      default:
        return compare(name, among(lots()), 0, 0, 0);
    }
  }

  private boolean compare(String name, int a, int b, int c, int d) {
    String want = answer(() -> model.call(name, a, b, c, d));
    String got = answer(() -> call(name, a, b, c, d));
    String call = name + "(" + a + ", " + b + ", " + c + ", " + d + ")";
    told.add(call + " " + want);
    Check.due(call, want, got);
    answers.merge(name + " " + kind(want), 1, Integer::sum);
    if (!want.equals(got)) {
      told.forEach(Check::tell);
    }
    return want.equals(got);
  }

  private static String kind(String answer) {
    for (String kind : new String[] {"Index", "Argument", "State"}) {
      if (answer.contains(kind)) {
        return kind;
      }
    }
    return "answer";
  }

  private interface Answer {
    long get();
  }

  private static String answer(Answer answer) {
    try {
      return String.valueOf(answer.get());
    } catch (RuntimeException e) {
      return "throws " + e.getClass().getName();
    }
  }

  private long call(String name, int a, int b, int c, int d) {
    LotTracker x = tracker;
    switch (name) {
      case "addStep": return x.addStep(a, b, c, d);
      case "enter": return x.enter(a);
      case "start": return x.start(a);
      case "rework": return x.rework(a);
      case "split": return x.split(a, b);
      case "merge": return x.merge(a, b);
      case "hold": return x.hold(a, b != 0) ? 1 : 0;
      case "scrap": return x.scrap(a);
      case "advance": return x.advance(a);
      case "time": return x.time();
      case "lots": return x.lots();
      case "wafers": return x.wafers();
      case "state": return x.state(a);
      case "stepOf": return x.stepOf(a);
      case "size": return x.size(a);
      case "slack": return x.slack(a);
      case "isLate": return x.isLate(a) ? 1 : 0;
      case "reworks": return x.reworks(a);
      case "nextFor": return x.nextFor(a);
      case "wafersAt": return x.wafersAt(a);
      case "wafersAtByWafers": return x.wafersAtByWafers(a);
      case "lotOf": return x.lotOf(a);
      case "parentOf": return x.parentOf(a);
      case "common": return x.common(a, b);
      case "path": return x.path(a);
      case "pathAt": return x.pathAt(a, b);
      default: throw new AssertionError(name);
    }
  }
}
