import java.lang.reflect.Method;
import java.lang.reflect.Modifier;
import java.nio.file.Files;
import java.nio.file.Path;
import java.util.Arrays;
import java.util.regex.Matcher;
import java.util.regex.Pattern;
import java.util.stream.Stream;

/** What README.md says of the class: its example is run as it stands there, and no call or test is left out of it. */
public final class ReadmeTest {
  private static final Pattern BLOCK = Pattern.compile("(?s)```java\n(.*?)```");
  private static final Pattern TEXT = Pattern.compile("String text = \"([^\"]*)\";");
  private static final Pattern CALL = Pattern.compile("(?m)^terrace\\.(\\w+)\\(([^)]*)\\); +// (-?\\d+): ");
  private static int wrong = 0;

  private static void holds(String what, boolean so) {
    if (!so) {
      wrong++;
      System.out.println("README.md: " + what);
    }
  }

  private static String first(Pattern pattern, String text) {
    Matcher found = pattern.matcher(text);
    boolean there = found.find();
    holds("there is no " + pattern, there);
    return there ? found.group(1) : "";
  }

  private static Method method(String name) {
    return Arrays.stream(ArkTerrace.class.getDeclaredMethods())
        .filter(m -> Modifier.isPublic(m.getModifiers()) && m.getName().equals(name)).findFirst().orElseThrow();
  }

  private static long answer(ArkTerrace terrace, String name, String numbers) throws Exception {
    Object[] args = Stream.of(numbers.split(", *")).filter(s -> !s.isEmpty()).map(Integer::valueOf).toArray();
    return ((Number) method(name).invoke(terrace, args)).longValue();
  }

  private static void example(String readme) throws Exception {
    String block = first(BLOCK, readme);
    ArkTerrace terrace = new ArkTerrace();
    for (char c : first(TEXT, block).toCharArray()) terrace.feed(c);
    Matcher call = CALL.matcher(block);
    int asked = 0;
    for (; call.find(); asked++) {
      long got = answer(terrace, call.group(1), call.group(2));
      holds(call.group().trim() + " but the answer is " + got, got == Long.parseLong(call.group(3)));
    }
    long calls = block.lines().filter(line -> line.startsWith("terrace.")).count();
    holds("each call of the example tells its answer", asked == calls && asked > 0);
  }

  private static void allIsNamed(String readme) throws Exception {
    for (Method m : ArkTerrace.class.getDeclaredMethods()) {
      if (!Modifier.isPublic(m.getModifiers())) continue;
      String args = m.getParameterCount() == 0 ? "" : "\\w+" + ", \\w+".repeat(m.getParameterCount() - 1);
      holds("the call is not told: " + m.getName(),
          Pattern.compile("`" + m.getName() + "\\(" + args + "\\)`").matcher(readme).find());
    }
    try (Stream<Path> tests = Files.list(Path.of("src/test/java"))) {
      for (Path test : (Iterable<Path>) tests::iterator) {
        String name = test.getFileName().toString().replace(".java", "");
        holds("the test is not told: " + name, readme.contains("`" + name + "`"));
      }
    }
    holds("how the tests are run", readme.contains(".ci/run") && Files.isExecutable(Path.of(".ci/run")));
  }

  public static void main(String[] args) throws Exception {
    String readme = Files.readString(Path.of("README.md"));
    example(readme);
    allIsNamed(readme);
    System.out.println(wrong == 0 ? "README.md holds" : wrong + " do not hold");
    if (wrong != 0) System.exit(1);
  }
}
