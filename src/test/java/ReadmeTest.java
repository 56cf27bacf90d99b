import java.io.IOException;
import java.lang.reflect.InvocationTargetException;
import java.lang.reflect.Method;
import java.nio.file.Files;
import java.nio.file.Path;
import java.util.ArrayList;
import java.util.HashMap;
import java.util.List;
import java.util.Map;
import java.util.TreeSet;
import java.util.regex.Matcher;
import java.util.regex.Pattern;
import java.util.stream.Stream;

/** README.md: each call that it shows is done, and must answer or throw what stands behind it; it names each test. */
public final class ReadmeTest {
  private static final Pattern MADE = Pattern.compile("Pagekernel (\\w+) = new Pagekernel\\(\\);");
  private static final Pattern CALL = Pattern.compile("(?:int (\\w+) = )?(\\w+)\\.(\\w+)\\(([^)]*)\\);\\s*// (.*)");

  private static final Map<String, Pagekernel> OBJECTS = new HashMap<>();
  private static final Map<String, Integer> NUMBERS = new HashMap<>();
  private static final TreeSet<String> CALLED = new TreeSet<>();

  private static Object value(String word) {
    if (word.equals("true") || word.equals("false")) {
      return Boolean.valueOf(word);
    }
    return NUMBERS.containsKey(word) ? NUMBERS.get(word) : Integer.valueOf(word);
  }

  private static String answered(Pagekernel x, String name, Object[] told) {
    for (Method method : Pagekernel.class.getMethods()) {
      if (method.getName().equals(name) && method.getParameterCount() == told.length && method.getDeclaringClass() == Pagekernel.class) {
        try {
          Object answer = method.invoke(x, told);
          return answer instanceof String ? "\"" + answer + "\"" : String.valueOf(answer);
        } catch (InvocationTargetException e) {
          return "throws " + e.getCause().getClass().getSimpleName();
        } catch (IllegalAccessException e) {
          return "no call of the face";
        }
      }
    }
    return "no call of the face";
  }

  private static void line(String line) {
    Matcher made = MADE.matcher(line);
    Matcher call = CALL.matcher(line);
    if (made.matches()) {
      OBJECTS.put(made.group(1), new Pagekernel());
    } else if (call.matches() && OBJECTS.containsKey(call.group(2))) {
      String[] words = call.group(4).isEmpty() ? new String[0] : call.group(4).split(", ");
      Object[] told = new Object[words.length];
      for (int i = 0; i < words.length; i++) {
        told[i] = value(words[i]);
      }
      String answer = answered(OBJECTS.get(call.group(2)), call.group(3), told);
      Checks.due(line, answer, call.group(5).split(" -- ")[0].trim());
      if (call.group(1) != null) {
        NUMBERS.put(call.group(1), Integer.valueOf(answer));
      }
      CALLED.add(call.group(3));
    } else {
      Checks.due("a line of README.md", line, "a call with what it answers");
    }
  }

  private static void calls(String readme) {
    boolean isCode = false;
    int calls = 0;
    for (String line : readme.split("\n")) {
      if (line.startsWith("```")) {
        isCode = line.equals("```java");
      } else if (isCode && !line.isBlank()) {
        line(line.trim());
        calls++;
      }
    }
    Checks.due("README.md shows calls", calls > 50, true);
    for (String needed : new String[] {"type", "sample", "start", "run", "step", "state", "ofProcess", "out"}) {
      Checks.due("README.md shows " + needed, CALLED.contains(needed), true);
    }
  }

  private static void tests(String readme) throws IOException {
    TreeSet<String> there = new TreeSet<>();
    try (Stream<Path> files = Files.list(Path.of("src/test/java"))) {
      List<Path> all = new ArrayList<>(files.toList());
      for (Path file : all) {
        if (Files.readString(file).contains("public static void main")) {
          there.add(file.getFileName().toString().replace(".java", ""));
        }
      }
    }
    TreeSet<String> named = new TreeSet<>();
    Matcher m = Pattern.compile("\n\\| `(\\w+)` \\|").matcher(readme);
    while (m.find()) {
      named.add(m.group(1));
    }
    Checks.due("tests in the table", named, there);
    Checks.due("how they are run", readme.contains("\n    .ci/run\n") && Files.isExecutable(Path.of(".ci/run")), true);
  }

  public static void main(String[] arguments) throws IOException {
    String readme = Files.readString(Path.of("README.md"));
    calls(readme);
    tests(readme);
    Checks.end();
  }
}
