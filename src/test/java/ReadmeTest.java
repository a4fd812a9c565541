import java.io.ByteArrayOutputStream;
import java.io.IOException;
import java.io.PrintStream;
import java.lang.reflect.Method;
import java.lang.reflect.Modifier;
import java.nio.charset.StandardCharsets;
import java.nio.file.Files;
import java.nio.file.Path;
import java.util.ArrayList;
import java.util.Arrays;
import java.util.List;

/** README.md: its example is the one that is run here, and its tables tell each call as the class has it. */
final class ReadmeTest {
  private static final Path ROOT = Path.of(System.getProperty("project", "."));
  private static final String PRINTED = "System.out.println(";

  private ReadmeTest() {
  }

  static void run() {
    String readme = read("README.md");
    String example = read("src/test/java/Example.java");
    Check.same("README.md has the example", readme.contains("```java\n" + example + "```\n"), true);
    Check.same("the example's answers", printed(), shown(example));
    for (Method method : PostRoads.class.getDeclaredMethods()) {
      if (Modifier.isPublic(method.getModifiers())) {
        tellsCall(readme, method);
      }
    }
  }

  private static void tellsCall(String readme, Method method) {
    String row = rowOf(readme, method.getName());
    String call = row.isEmpty() ? "" : row.substring(row.indexOf('(') + 1, row.indexOf(')'));
    int arguments = call.isEmpty() ? 0 : call.split(",").length;
    Check.same("README.md tells " + method.getName(), row.isEmpty(), false);
    Check.same("README.md: the arguments of " + method.getName(), arguments, method.getParameterCount());
    List<String> due = new ArrayList<>();
    for (Class<?> thrown : method.getExceptionTypes()) {
      due.add(thrown.getSimpleName().replace("Exception", ""));
    }
    Check.same("README.md: the exceptions of " + method.getName(), exceptionsIn(row), due);
  }

  private static String rowOf(String readme, String call) {
    for (String line : readme.split("\n")) {
      if (line.startsWith("| `" + call + "(")) {
        return line;
      }
    }
    return "";
  }

  /** The names in a row's last column, without what stands in brackets behind them. */
  private static List<String> exceptionsIn(String row) {
    String[] columns = row.split("\\|");
    String last = columns.length > 3 ? columns[3].replaceAll("\\([^)]*\\)", "").trim() : "";
    return last.isEmpty() ? List.of() : Arrays.asList(last.split(" *, *"));
  }

  /** What the example's lines show behind them, in their order. */
  private static List<String> shown(String example) {
    List<String> answers = new ArrayList<>();
    for (String line : example.split("\n")) {
      int comment = line.indexOf(" // ");
      if (line.trim().startsWith(PRINTED)) {
        answers.add(comment < 0 ? "nothing is shown" : line.substring(comment + 4));
      }
    }
    return answers;
  }

  private static List<String> printed() {
    PrintStream before = System.out;
    ByteArrayOutputStream bytes = new ByteArrayOutputStream();
    System.setOut(new PrintStream(bytes, true, StandardCharsets.US_ASCII));
    try {
      Example.main(new String[0]);
    } finally {
      System.setOut(before);
    }
    return Arrays.asList(bytes.toString(StandardCharsets.US_ASCII).split("\\R"));
  }

  private static String read(String name) {
    try {
      return Files.readString(ROOT.resolve(name), StandardCharsets.UTF_8);
    } catch (IOException e) {
      return "";
    }
  }
}
