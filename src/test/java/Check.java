import java.util.function.Function;
import java.util.function.Supplier;

/** What the tests share: answers that are due, refusals that are due and change nothing, and the end of a test. */
final class Check {
  private static int looked = 0;
  private static int wrong = 0;

  private Check() {
  }

  static void due(String what, long want, long got) {
    looked++;
    if (want != got) {
      tell(what + " answered " + got + ", due is " + want);
    }
  }

  static void due(String what, boolean want, boolean got) {
    due(what, want ? 1 : 0, got ? 1 : 0);
  }

  static void due(String what, String want, String got) {
    looked++;
    if (!want.equals(got)) {
      tell(what + " answered " + got + ", due is " + want);
    }
  }

  /**
   * The call must throw just this exception, not one of a class below it, and change nothing. The object is made
   * twice, so that the look at the one that was not called costs the other one none of its 512 calls.
   */
  static void refuses(String what, Class<? extends RuntimeException> want,
      Supplier<LotTracker> setup, Function<LotTracker, Object> call) {
    LotTracker called = setup.get();
    due(what, "throws " + want.getName(), answer(called, call));
    due("the state after the refusal of " + what, Portrait.of(setup.get()), Portrait.of(called));
  }

  static String answer(LotTracker tracker, Function<LotTracker, Object> call) {
    try {
      return String.valueOf(call.apply(tracker));
    } catch (RuntimeException e) {
      return "throws " + e.getClass().getName();
    }
  }

  static void tell(String what) {
    wrong++;
    if (wrong <= 40) {
      System.out.println(what);
    }
  }

  static void end(String test) {
    System.out.println(test + ": " + looked + " answers looked at, " + wrong + " wrong");
    if (wrong > 0 || looked == 0) {
      System.exit(1);
    }
  }
}
