import java.lang.reflect.Constructor;
import java.lang.reflect.Field;
import java.lang.reflect.Method;
import java.lang.reflect.Modifier;
import java.util.TreeSet;

/** The public face, and that there is nothing else to be seen from outside. */
public final class FaceTest {
  private static final String INDEX = "IndexOutOfBoundsException";
  private static final String ARGUMENT = "IllegalArgumentException";
  private static final String STATE = "IllegalStateException";

  private static final String[] METHODS = {
      "int addStep(int,int,int,int) " + INDEX + " " + ARGUMENT + " " + STATE,
      "int enter(int) " + ARGUMENT + " " + STATE,
      "int start(int) " + INDEX + " " + STATE,
      "int rework(int) " + INDEX + " " + STATE,
      "int split(int,int) " + INDEX + " " + ARGUMENT + " " + STATE,
      "int merge(int,int) " + INDEX + " " + ARGUMENT + " " + STATE,
      "boolean hold(int,boolean) " + INDEX + " " + STATE,
      "int scrap(int) " + INDEX + " " + STATE,
      "int advance(int) " + ARGUMENT,
      "int time()",
      "int lots()",
      "int wafers()",
      "int state(int) " + INDEX,
      "int stepOf(int) " + INDEX,
      "int size(int) " + INDEX,
      "int slack(int) " + INDEX,
      "boolean isLate(int) " + INDEX,
      "int reworks(int) " + INDEX,
      "int nextFor(int) " + INDEX,
      "int wafersAt(int) " + INDEX,
      "int wafersAtByWafers(int) " + INDEX,
      "int lotOf(int) " + INDEX,
      "int parentOf(int) " + INDEX,
      "int common(int,int) " + INDEX,
      "int path(int) " + INDEX,
      "int pathAt(int,int) " + INDEX};

  public static void main(String[] args) throws Exception {
    Check.due("the class", "public final", Modifier.toString(LotTracker.class.getModifiers()));
    Check.due("constructors", 1, LotTracker.class.getDeclaredConstructors().length);
    for (Constructor<?> constructor : LotTracker.class.getDeclaredConstructors()) {
      Check.due("the constructor", "public LotTracker()", constructor.toString());
    }
    methods();
    constants();
    Check.end("FaceTest");
  }

  private static void methods() {
    TreeSet<String> want = new TreeSet<>(java.util.List.of(METHODS));
    TreeSet<String> names = new TreeSet<>();
    for (String method : METHODS) {
      names.add(method.substring(method.indexOf(' ') + 1, method.indexOf('(')));
    }
    TreeSet<String> got = new TreeSet<>();
    for (Method method : LotTracker.class.getDeclaredMethods()) {
      if (Modifier.isPrivate(method.getModifiers())) {
        Check.due("a private method " + method.getName() + " bears a public name", false,
            names.contains(method.getName()));
      } else {
        Check.due("modifiers of " + method.getName(), "public", Modifier.toString(method.getModifiers()));
        got.add(told(method));
      }
    }
    Check.due("the methods", want.toString(), got.toString());
  }

  private static String told(Method method) {
    StringBuilder text = new StringBuilder();
    text.append(method.getReturnType().getSimpleName()).append(' ').append(method.getName()).append('(');
    for (int i = 0; i < method.getParameterCount(); i++) {
      text.append(i == 0 ? "" : ",").append(method.getParameterTypes()[i].getSimpleName());
    }
    text.append(')');
    for (Class<?> exception : method.getExceptionTypes()) {
      text.append(' ').append(exception.getSimpleName());
    }
    return text.toString();
  }

  private static void constants() throws Exception {
    TreeSet<String> got = new TreeSet<>();
    for (Field field : LotTracker.class.getDeclaredFields()) {
      if (Modifier.isPrivate(field.getModifiers())) {
        Check.due("static state " + field.getName(), false,
            Modifier.isStatic(field.getModifiers()) && !Modifier.isFinal(field.getModifiers()));
      } else {
        got.add(Modifier.toString(field.getModifiers()) + " " + field.getType() + " " + field.getName() + " = "
            + field.get(null));
      }
    }
    TreeSet<String> want = new TreeSet<>();
    String[] constants = {"NONE = -1", "WAITING = 0", "RUNNING = 1", "DONE = 2", "ENDED = 3"};
    for (String constant : constants) {
      want.add("public static final int " + constant);
    }
    Check.due("the constants", want.toString(), got.toString());
  }
}
