import java.io.IOException;
import java.lang.reflect.Method;
import java.lang.reflect.Modifier;
import java.net.URL;
import java.net.URLClassLoader;
import java.nio.file.Files;
import java.nio.file.Path;
import java.util.ArrayList;
import java.util.List;
import java.util.regex.Matcher;
import java.util.regex.Pattern;
import javax.tools.JavaCompiler;
import javax.tools.ToolProvider;

/** The example of README.md, compiled and run as it stands there; it is run in the folder of README.md. */
public final class ReadmeTest {
  private static final String EXAMPLE = "ReadmeExample";
  private static final String MAKING = "LotTracker fab = new LotTracker();";
  private static final Pattern LINE =
      Pattern.compile("(?:int (\\w+) = )?(fab\\..*\\));\\s*// (answers|throws) (-?\\w+)(?:[:,] .*)?");

  // What each line of the example says: the call, and behind it what is due.
  private final List<String> calls = new ArrayList<>();
  private final List<String> due = new ArrayList<>();
  private final StringBuilder program = new StringBuilder();

  public static void main(String[] args) throws Exception {
    List<String> readme = Files.readAllLines(Path.of("README.md"));
    everyCallIsNamed(String.join("\n", readme));
    ReadmeTest test = new ReadmeTest();
    test.read(example(readme));
    test.compareWith(answersOf(test.program.toString()));
    Check.end("ReadmeTest");
  }

  private static void everyCallIsNamed(String readme) {
    for (Method method : LotTracker.class.getDeclaredMethods()) {
      if (Modifier.isPublic(method.getModifiers())) {
        boolean isNamed = Pattern.compile("`" + method.getName() + "[`(]").matcher(readme).find();
        Check.due("README.md names " + method.getName(), true, isNamed);
      }
    }
  }

  private static List<String> example(List<String> readme) {
    int begin = readme.indexOf("```java") + 1;
    int length = readme.subList(begin, readme.size()).indexOf("```");
    Check.due("README.md has an example", true, begin > 0 && length > 0);
    return readme.subList(begin, begin + Math.max(length, 0));
  }

  private void read(List<String> example) {
    program.append("public final class ").append(EXAMPLE).append(" {\n")
        .append("public static void run(java.util.List<String> answers) {\n");
    for (String line : example) {
      if (line.equals(MAKING)) {
        program.append(line).append('\n');
      } else if (!line.isBlank()) {
        readCall(line);
      }
    }
    program.append("}\n}\n");
  }

  private void readCall(String line) {
    Matcher parts = LINE.matcher(line);
    if (!parts.matches()) {
      Check.tell("README.md does not say what this answers: " + line);
      return;
    }
    calls.add(parts.group(2));
    due.add(parts.group(3) + " " + parts.group(4));
    if (parts.group(1) != null) {
      program.append("int ").append(parts.group(1)).append(" = ").append(parts.group(2)).append(";\n")
          .append("answers.add(\"answers \" + ").append(parts.group(1)).append(");\n");
      return;
    }
    program.append("try { answers.add(\"answers \" + ").append(parts.group(2)).append("); }\n")
        .append("catch (RuntimeException e) { answers.add(\"throws \" + e.getClass().getSimpleName()); }\n");
  }

  private void compareWith(List<String> answers) {
    Check.due("how many calls the example has", calls.size(), answers.size());
    for (int i = 0; i < calls.size() && i < answers.size(); i++) {
      Check.due("in README.md " + calls.get(i), due.get(i), answers.get(i));
    }
  }

  private static List<String> answersOf(String program) throws Exception {
    Path folder = Files.createTempDirectory(EXAMPLE);
    Path source = folder.resolve(EXAMPLE + ".java");
    List<String> answers = new ArrayList<>();
    try {
      Files.writeString(source, program);
      JavaCompiler javac = ToolProvider.getSystemJavaCompiler();
      int code = javac.run(null, null, null, "-cp", System.getProperty("java.class.path"), source.toString());
      Check.due("how the example compiles", 0, code);
      if (code == 0) {
        run(folder, answers);
      }
    } finally {
      remove(folder);
    }
    return answers;
  }

  private static void run(Path folder, List<String> answers) throws Exception {
    try (URLClassLoader loader = new URLClassLoader(new URL[] {folder.toUri().toURL()})) {
      loader.loadClass(EXAMPLE).getMethod("run", List.class).invoke(null, answers);
    }
  }

  private static void remove(Path folder) throws IOException {
    Files.deleteIfExists(folder.resolve(EXAMPLE + ".java"));
    Files.deleteIfExists(folder.resolve(EXAMPLE + ".class"));
    Files.delete(folder);
  }
}
