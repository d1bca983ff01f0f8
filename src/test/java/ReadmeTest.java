import java.lang.reflect.Method;
import java.nio.file.Files;
import java.nio.file.Path;
import java.util.TreeSet;
import java.util.regex.Matcher;
import java.util.regex.Pattern;

/** README.md shows a run of calls with their answers, and names every call and every test: they must be so. */
public final class ReadmeTest {
  private static final Checks CHECKS = new Checks("README.md");
  private static final Pattern TEXT = Pattern.compile("\"([^\"]*)\"\\.toCharArray\\(\\)\\) valley\\.type\\((\\d), b\\);");
  private static final Pattern CALL = Pattern.compile("^valley\\.(\\w+)\\(([^)]*)\\); +// answers (-?\\d+)");

  public static void main(String[] args) throws ReflectiveOperationException, java.io.IOException {
    String readme = Files.readString(Path.of("README.md"));
    answers(readme);
    names(readme);
    CHECKS.end();
  }

  private static void answers(String readme) throws ReflectiveOperationException {
    CHECKS.under("the answers of the run that is shown");
    OwnWeather valley = new OwnWeather();
    int calls = 0;
    for (String line : readme.split("\n")) {
      Matcher text = TEXT.matcher(line), call = CALL.matcher(line);
      if (text.find()) Checks.tell(valley, Integer.parseInt(text.group(2)), text.group(1));
      if (!call.find()) {
        CHECKS.must("a call without an answer: " + line, !line.startsWith("valley."));
        continue;
      }
      CHECKS.due(line, asked(valley, call.group(1), call.group(2)), Long.parseLong(call.group(3)));
      calls++;
    }
    CHECKS.must("a run is shown", calls > 10);
  }

  private static long asked(OwnWeather valley, String name, String arguments) throws ReflectiveOperationException {
    String[] told = arguments.isEmpty() ? new String[0] : arguments.split(", ");
    Object[] numbers = new Object[told.length];
    Class<?>[] types = new Class<?>[told.length];
    for (int k = 0; k < told.length; k++) {
      numbers[k] = Integer.parseInt(told[k]);
      types[k] = int.class;
    }
    return ((Number) OwnWeather.class.getMethod(name, types).invoke(valley, numbers)).longValue();
  }

  private static void names(String readme) throws java.io.IOException {
    CHECKS.under("each call of the face and each test is named");
    for (Method m : OwnWeather.class.getDeclaredMethods())
      if (java.lang.reflect.Modifier.isPublic(m.getModifiers()))
        CHECKS.must(m.getName() + " is not named", readme.contains("`" + m.getName() + "`"));
    TreeSet<String> tests = new TreeSet<>();
    try (var files = Files.list(Path.of("src/test/java"))) {
      files.map(f -> f.getFileName().toString()).filter(f -> f.endsWith("Test.java")).forEach(tests::add);
    }
    CHECKS.must("there are tests", tests.size() > 5);
    for (String test : tests)
      CHECKS.must(test + " is not named", readme.contains("`" + test.replace(".java", "") + "`"));
  }
}
