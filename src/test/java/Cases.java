import java.lang.reflect.InvocationTargetException;
import java.lang.reflect.Method;
import java.lang.reflect.Modifier;
import java.util.Arrays;
import java.util.Comparator;

/** Runs all methods of a test that are named after a promise and a case, so that none is left out. */
final class Cases {
  private Cases() {
  }

  static void run(Class<?> test) {
    Method[] methods = test.getDeclaredMethods();
    Arrays.sort(methods, Comparator.comparing(Method::getName));
    for (Method method : methods) {
      if (method.getName().startsWith("promise")) {
        run(method);
      }
    }
    Check.end(test.getName());
  }

  private static void run(Method method) {
    Check.beginPart(method.getName());
    int looked = Check.looked();
    if (method.getParameterCount() > 0 || !Modifier.isStatic(method.getModifiers())) {
      Check.tell("a case is static and takes nothing");
      return;
    }
    try {
      method.setAccessible(true);
      method.invoke(null);
    } catch (InvocationTargetException e) {
      Check.tell("ended by " + e.getCause());
    } catch (IllegalAccessException e) {
      Check.tell("can't be run");
    }
    if (Check.looked() == looked) {
      Check.tell("looked at nothing");
    }
  }
}
