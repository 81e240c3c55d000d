import java.io.IOException;
import java.nio.file.Files;
import java.nio.file.Path;
import java.util.ArrayList;
import java.util.List;
import java.util.regex.Matcher;
import java.util.regex.Pattern;

/** The README's example: its calls are made one by one, and must answer what their comments say. */
public final class ReadmeTests {
  private static final Pattern CALL = Pattern.compile("bench\\.(\\w+)\\(([^)]*)\\); +// (-?\\d+|true|false)(:.*)?");

  private static int wrong = 0;

  private static void report(String what) {
    wrong++;
    System.out.println("README.md: " + what);
  }

  private static List<String> example(Path readme) throws IOException {
    List<String> lines = new ArrayList<>();
    boolean inside = false;
    for (String line : Files.readAllLines(readme)) {
      if (line.startsWith("```")) inside = line.equals("```java");
      else if (inside && line.startsWith("bench.")) lines.add(line);
    }
    return lines;
  }

  private static Object value(String text) {
    if (text.equals("true") || text.equals("false")) return Boolean.valueOf(text);
    return text.equals("JoinBench.NONE") ? Integer.valueOf(JoinBench.NONE) : Integer.decode(text);
  }

  private static Object answer(JoinBench bench, String name, String arguments) throws ReflectiveOperationException {
    String[] texts = arguments.isEmpty() ? new String[0] : arguments.split(", *");
    Object[] values = new Object[texts.length];
    Class<?>[] types = new Class<?>[texts.length];
    for (int i = 0; i < texts.length; i++) {
      values[i] = value(texts[i]);
      types[i] = values[i] instanceof Boolean ? boolean.class : int.class;
    }
    return JoinBench.class.getMethod(name, types).invoke(bench, values);
  }

  public static void main(String[] args) throws IOException, ReflectiveOperationException {
    Path readme = args.length > 0 ? Path.of(args[0]).resolve("../../../../README.md").normalize() : Path.of("README.md");
    JoinBench bench = new JoinBench();
    List<String> lines = example(readme);
    if (lines.isEmpty()) report("has no example");
    for (String line : lines) {
      Matcher call = CALL.matcher(line);
      if (!call.matches()) {
        report("no call with its answer: " + line);
        continue;
      }
      Object got = answer(bench, call.group(1), call.group(2));
      if (!got.toString().equals(call.group(3))) report("answered " + got + ": " + line);
    }
    System.out.println(wrong == 0 ? "all answers are as due" : wrong + " answers are not as due");
    if (wrong != 0) System.exit(1);
  }
}
