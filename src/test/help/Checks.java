import java.io.IOException;
import java.nio.file.Files;
import java.nio.file.Path;
import java.util.ArrayList;
import java.util.List;

/** How a test checks: what is due is held against what was answered; the last sentence quoted tells why it is due. */
abstract class Checks {
  static final int REFUSED = -9;
  static final int NONE = -1;
  static final int NO_POWER = -9999;
  static final int NO_QUARTER = -2147483648;
  static final int PROMISES = 57;
  /** The cells that are just none, and those that are farthest from being some. */
  static final int[] NO_CELLS = {-1, 8, Integer.MIN_VALUE, Integer.MAX_VALUE};

  private static final Path DOCUMENT = Path.of("../shared/DOC.md");
  private static final String[] sections = readSections();
  private static final List<List<String>> quoted = new ArrayList<>();
  private static String reason = "";
  private static int wrong = 0;
  private static int checks = 0;

  interface Call {
    Object on(Shortdecimals x);
  }

  // ---- the document

  /** 0 is all that stands ahead of the first promise. */
  private static String[] readSections() {
    try {
      String[] parts = Files.readString(DOCUMENT).split("\n## Promise \\d+: ");
      for (int i = 0; i < parts.length; i++) {
        parts[i] = parts[i].replaceAll("\\s+", " ");
      }
      return parts;
    } catch (IOException e) {
      throw new IllegalStateException("the document can't be read", e);
    }
  }

  /** What is checked from here on is due by these words of the description. */
  static void sentence(String words) {
    sentence(0, words);
  }

  /** What is checked from here on is due by these words of a promise. */
  static void sentence(int promise, String words) {
    reason = (promise == 0 ? "" : "promise " + promise + ": ") + "\"" + words + "\": ";
    while (quoted.size() <= promise) {
      quoted.add(new ArrayList<>());
    }
    quoted.get(promise).add(words);
    due("is it in the document", sections[promise].contains(words), true);
  }

  /** Each row of a promise that tells what is returned or thrown was quoted. */
  static void everyRowWasQuoted() {
    reason = "";
    for (int promise = 1; promise <= PROMISES; promise++) {
      for (String row : sections[promise].split("(?=(Throws|Returns) )")) {
        boolean isRow = row.startsWith("Throws ") || row.startsWith("Returns ");
        boolean isQuoted = promise < quoted.size() && quoted.get(promise).stream().anyMatch(row::contains);
        due("a test of promise " + promise + " for: " + row, isQuoted || !isRow, true);
      }
    }
  }

  // ---- the checks

  static void due(String call, Object got, Object want) {
    checks++;
    if (!want.equals(got)) {
      wrong++;
      System.out.println(reason + call + " answered " + got + ", due is " + want);
    }
  }

  /** The call throws just this exception, not one below it, and changes nothing. */
  static void thrown(String name, Class<?> exception, Call call) {
    Shortdecimals x = filled();
    long digest = x.digest();
    String state = state(x);
    Object end;
    try {
      end = call.on(x);
    } catch (RuntimeException e) {
      end = e.getClass();
    }
    due(name, end, exception);
    due(name + ", and the state then", state(x), state);
    due(name + ", and digest() then", x.digest(), digest);
  }

  static void noCell(String name, Call call) {
    thrown(name, IndexOutOfBoundsException.class, call);
  }

  static void illegal(String name, Call call) {
    thrown(name, IllegalArgumentException.class, call);
  }

  /** The call is refused: all stays but that one refusal more is counted. */
  static void refused(String name, Shortdecimals x, Call call) {
    String state = stateButForRefusals(x);
    int refusals = x.house(2);
    due(name, call.on(x), REFUSED);
    due(name + ", and the state then", stateButForRefusals(x), state);
    due(name + ", and the refusals then", x.house(2), refusals + 1);
  }

  /** Ends the program with 1 if one check was not as due. */
  static void end() {
    System.out.println(wrong == 0 ? checks + " checks are as due" : wrong + " of " + checks + " checks are not as due");
    if (wrong != 0) {
      System.exit(1);
    }
  }

  // ---- objects

  /** Of each kind 1.25, -0.0123, 10^9, endless below 0, the greatest, the least, the zero with sign, the zero. */
  static Shortdecimals filled() {
    Shortdecimals x = new Shortdecimals();
    for (Side side : Side.values()) {
      side.quarters(x, 0, 5);
      side.made(x, 1, -123, -4);
      side.ten(x, 2, 9);
      side.known(x, 3, 3);
      side.known(x, 4, 4);
      side.known(x, 5, 5);
      side.known(x, 6, 1);
    }
    x.knock();
    return x;
  }

  static String state(Shortdecimals x) {
    return stateButForRefusals(x) + " " + x.house(2);
  }

  private static String stateButForRefusals(Shortdecimals x) {
    StringBuilder state = new StringBuilder();
    for (Side side : Side.values()) {
      state.append(side.texts(x, 0, 7)).append(' ');
      for (int cell = 0; cell < 8; cell++) {
        state.append(side.bits(x, cell)).append(' ');
      }
    }
    return state.append(x.house(0) + " " + x.house(1) + " " + x.house(3)).toString();
  }
}
