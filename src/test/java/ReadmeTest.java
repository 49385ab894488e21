import java.lang.reflect.InvocationTargetException;
import java.lang.reflect.Method;
import java.nio.file.Files;
import java.nio.file.Path;
import java.util.Arrays;
import java.util.regex.Matcher;
import java.util.regex.Pattern;

/** The calls that README.md shows, one behind the other on one object, answer what stands behind them. */
public final class ReadmeTest {
  private static final Path README = Path.of("README.md");
  /** Method, what it takes, what it answers; a ":" ends the answer, for a text has none. */
  private static final Pattern CALL = Pattern.compile("    x\\.(\\w+)\\(([^)]*)\\); +// ([^:]*)(:.*)?");
  private static final int LEAST_CALLS = 10;

  private static int calls = 0;
  private static int wrong = 0;

  public static void main(String[] args) throws Exception {
    Shortdecimals x = new Shortdecimals();
    for (String line : Files.readAllLines(README)) {
      Matcher call = CALL.matcher(line);
      if (call.matches()) {
        check(line, answer(x, call.group(1), call.group(2).split(", ")), call.group(3));
      }
    }
    if (calls < LEAST_CALLS) {
      wrong++;
      System.out.println("README.md shows only " + calls + " calls that this test can read");
    }
    System.out.println(wrong == 0 ? calls + " calls of README.md are as due" : wrong + " things of README.md are not as due");
    if (wrong != 0) {
      System.exit(1);
    }
  }

  private static void check(String line, String got, String due) {
    calls++;
    if (!got.equals(due)) {
      wrong++;
      System.out.println(line.trim() + " answered " + got);
    }
  }

  private static String answer(Shortdecimals x, String name, String[] given) throws Exception {
    Method method = Arrays.stream(Shortdecimals.class.getMethods()).filter(each -> each.getName().equals(name)).findFirst()
        .orElseThrow(() -> new IllegalStateException("there is no method " + name));
    Class<?>[] types = method.getParameterTypes();
    Object[] values = new Object[types.length];
    for (int i = 0; i < types.length; i++) {
      values[i] = types[i] == boolean.class ? (Object) Boolean.valueOf(given[i]) : (Object) Integer.valueOf(given[i]);
    }
    try {
      return String.valueOf(method.invoke(x, values));
    } catch (InvocationTargetException e) {
      return e.getCause().getClass().getSimpleName();
    }
  }
}
