import java.util.List;
import java.util.function.Function;
import java.util.function.Supplier;

/** What the tests share: answers that are due, refusals that are due and change nothing, and the end of a test. */
final class Check {
  static final Class<IndexOutOfBoundsException> INDEX = IndexOutOfBoundsException.class;
  static final Class<IllegalArgumentException> ARGUMENT = IllegalArgumentException.class;
  static final Class<IllegalStateException> STATE = IllegalStateException.class;
  static final int MIN = Integer.MIN_VALUE, MAX = Integer.MAX_VALUE;

  private static String part = "";
  private static int looked = 0;
  private static int wrong = 0;

  private Check() {
  }

  /** What is looked at from here on is told under this name. */
  static void beginPart(String name) {
    part = name + ": ";
  }

  static int looked() {
    return looked;
  }

  static void due(String what, long want, long got) {
    due(what, String.valueOf(want), String.valueOf(got));
  }

  static void due(String what, boolean want, boolean got) {
    due(what, String.valueOf(want), String.valueOf(got));
  }

  static void due(String what, String want, String got) {
    looked++;
    if (!want.equals(got)) {
      tell(what + " answered " + got + ", due is " + want);
    }
  }

  /** The call must throw just this exception, not one of a class below it, and every answer must be as before. */
  static void refuses(String what, Class<? extends RuntimeException> want,
      Supplier<LotTracker> setup, Function<LotTracker, Object> call) {
    due(what, "throws " + want.getName(), answer(setup.get(), call));
    List<String> before = Answers.of(setup);
    List<String> after = Answers.of(() -> {
      LotTracker tracker = setup.get();
      answer(tracker, call);
      return tracker;
    });
    due("after the refusal of " + what + " there", before.size(), after.size());
    for (int i = 0; i < before.size() && i < after.size(); i++) {
      due("after the refusal of " + what + " there", before.get(i), after.get(i));
    }
  }

  static String answer(LotTracker tracker, Function<LotTracker, Object> call) {
    try {
      return String.valueOf(call.apply(tracker));
    } catch (RuntimeException e) {
      return "throws " + e.getClass().getName();
    }
  }

  static void tell(String what) {
    wrong++;
    if (wrong <= 40) {
      System.out.println(part + what);
    }
  }

  static void end(String test) {
    System.out.println(test + ": " + looked + " answers looked at, " + wrong + " wrong");
    if (wrong > 0 || looked == 0) {
      System.exit(1);
    }
  }
}
