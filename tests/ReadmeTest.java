import java.io.IOException;
import java.lang.reflect.InvocationTargetException;
import java.lang.reflect.Method;
import java.lang.reflect.Modifier;
import java.nio.file.Files;
import java.nio.file.Path;
import java.util.List;
import java.util.regex.Matcher;
import java.util.regex.Pattern;
import java.util.stream.Collectors;
import java.util.stream.Stream;

/** What README.md says: each call of its examples answers what stands behind it. */
public final class ReadmeTest {
  private static final Pattern CALL =
      Pattern.compile("desk\\.(\\w+)\\(([^)]*)\\);\\s+// (?:throws (\\w+)|(-?\\d+)): .+");
  private static final Pattern TEST_NAME = Pattern.compile("`(tests/\\w+\\.java)`");

  public static void main(String[] args) throws IOException, ReflectiveOperationException {
    String readme = Files.readString(Path.of("README.md"));
    examples(readme.lines().collect(Collectors.toList()));
    everyCallIsNamed(readme);
    everyTestIsNamed(readme);
    Check.isTrue("how to run the tests", readme.contains("    .ci/run\n"));
    Check.end("ReadmeTest");
  }

  private static void examples(List<String> lines) throws ReflectiveOperationException {
    CaptionDesk desk = null;
    boolean isCode = false;
    int made = 0;
    for (String line : lines) {
      if (line.startsWith("```")) {
        isCode = line.equals("```java");
      } else if (isCode && line.equals("CaptionDesk desk = new CaptionDesk();")) {
        desk = new CaptionDesk();
        made++;
      } else if (isCode) {
        example(desk, line);
      }
    }
    Check.due("examples", 2, made);
  }

  private static void example(CaptionDesk desk, String line) throws ReflectiveOperationException {
    Matcher m = CALL.matcher(line);
    boolean isCall = m.matches();
    Check.isTrue("a call and its answer: " + line, isCall);
    if (isCall) {
      String want = m.group(3) != null ? m.group(3) : m.group(4);
      String got = answer(desk, m.group(1), numbers(m.group(2)));
      Check.isTrue(line + " answered " + got, got.equals(want));
    }
  }

  private static Object[] numbers(String list) {
    return Stream.of(list.split(",")).map(String::trim).filter(s -> !s.isEmpty())
        .map(s -> s.startsWith("0x") ? Integer.parseUnsignedInt(s.substring(2), 16) : Integer.parseInt(s))
        .toArray();
  }

  private static String answer(CaptionDesk desk, String name, Object[] numbers)
      throws ReflectiveOperationException {
    Class<?>[] types = new Class<?>[numbers.length];
    java.util.Arrays.fill(types, int.class);
    try {
      return String.valueOf(CaptionDesk.class.getMethod(name, types).invoke(desk, numbers));
    } catch (InvocationTargetException e) {
      return e.getCause().getClass().getSimpleName();
    }
  }

  private static void everyCallIsNamed(String readme) {
    for (Method m : CaptionDesk.class.getDeclaredMethods()) {
      if (Modifier.isPublic(m.getModifiers())) {
        Check.isTrue("README names " + m.getName(), readme.contains(" | `" + m.getName() + "("));
      }
    }
  }

  private static void everyTestIsNamed(String readme) throws IOException {
    List<String> named = TEST_NAME.matcher(readme).results().map(r -> r.group(1)).collect(Collectors.toList());
    for (String name : named) {
      Check.isTrue(name + " is there", Files.exists(Path.of(name)));
    }
    try (Stream<Path> files = Files.list(Path.of("tests"))) {
      for (Path file : files.collect(Collectors.toList())) {
        boolean isTest = file.toString().endsWith("Test.java");
        Check.isTrue("README names " + file, !isTest || named.contains(file.toString()));
      }
    }
  }
}
