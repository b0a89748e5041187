import java.lang.reflect.Method;
import java.lang.reflect.Modifier;
import java.nio.file.Files;
import java.nio.file.Path;
import java.util.Arrays;
import java.util.regex.Matcher;
import java.util.regex.Pattern;
import java.util.stream.Stream;

/** README.md is to be true: its example is run as it stands there, and it leaves out no call and no test. */
public final class ReadmeTests {
  private static final Pattern TEXT = Pattern.compile("for \\(char b : \"([^\"]*)\"\\.toCharArray\\(\\)\\) x\\.type\\(([01]), b\\);");
  private static final Pattern CALL = Pattern.compile("x\\.(\\w+)\\(([-0-9, ]*)\\); +// (-?[0-9]+) .*");
  private static final Checks CHECKS = new Checks("readme");

  public static void main(String[] args) throws Exception {
    String readme = Files.readString(Path.of("README.md"));
    example(readme);
    calls(readme);
    tests(readme);
    CHECKS.end();
  }

  private static void example(String readme) throws Exception {
    int from = readme.indexOf("```java\n");
    int to = readme.indexOf("```", from + 3);
    CHECKS.holds("there is an example", from >= 0 && to > from);
    FounderSleeps x = new FounderSleeps();
    for (String line : readme.substring(from, to).split("\n")) {
      Matcher text = TEXT.matcher(line);
      Matcher call = CALL.matcher(line);
      if (text.matches()) {
        Checks.type(x, Integer.parseInt(text.group(2)), text.group(1));
      } else if (call.matches()) {
        CHECKS.due(line, answer(x, call.group(1), call.group(2)), Long.parseLong(call.group(3)));
      } else {
        CHECKS.holds("the example has a line that is not tested: " + line, !line.contains("x."));
      }
    }
  }

  private static long answer(FounderSleeps x, String name, String numbers) throws Exception {
    int[] all = numbers.isBlank() ? new int[0] : Arrays.stream(numbers.split(", ")).mapToInt(Integer::parseInt).toArray();
    Class<?>[] types = new Class<?>[all.length];
    Arrays.fill(types, int.class);
    Method method = FounderSleeps.class.getMethod(name, types);
    return ((Number) method.invoke(x, Arrays.stream(all).boxed().toArray())).longValue();
  }

  private static void calls(String readme) {
    for (Method m : FounderSleeps.class.getDeclaredMethods()) {
      if (Modifier.isPublic(m.getModifiers())) {
        CHECKS.holds("README.md names " + m.getName(), readme.contains("`" + m.getName() + "`"));
      }
    }
  }

  private static void tests(String readme) throws Exception {
    try (Stream<Path> files = Files.list(Path.of("src/test/java"))) {
      files.map(f -> f.getFileName().toString().replace(".java", "")).filter(f -> f.endsWith("Tests") || f.endsWith("Edges"))
          .filter(f -> !f.equals("Edges")).forEach(f -> CHECKS.holds("README.md names " + f, readme.contains("`" + f + "`")));
    }
  }
}
