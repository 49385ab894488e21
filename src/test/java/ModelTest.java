import java.math.BigDecimal;
import java.math.MathContext;
import java.math.RoundingMode;
import java.util.Random;

/**
 * Random runs of calls, held against a model that is made of the Java library: the numbers are doubles and floats, the
 * texts are looked for among all decimals of a length. The seed is fixed: every run of this test is the same.
 */
public final class ModelTest {
  private static final int RUNS = 3000;
  /** An object is used for at most 512 calls; this many are left for the last question and the digest. */
  private static final int CALLS = 460;
  private static final int CALLS_OF_A_QUESTION = 40;
  private static final int REFUSED = -9;
  private static final int NO_QUARTER = Integer.MIN_VALUE;

  private static int wrong = 0;

  public static void main(String[] args) {
    Random random = new Random(7795);
    for (int run = 0; run < RUNS; run++) {
      oneRun(run, random);
    }
    everyTenAndKnown();
    System.out.println(wrong == 0 ? "all runs are as the model's" : wrong + " answers are not as the model's");
    if (wrong != 0) {
      System.exit(1);
    }
  }

  private static void due(String call, Object got, Object want) {
    if (!want.equals(got)) {
      wrong++;
      if (wrong < 50) {
        System.out.println(call + " answered " + got + ", due is " + want);
      }
    }
  }

  // ---- the model

  /** Eight numbers of one kind; a float is held as the double of the same value. */
  private static final class Side {
    final boolean isWide;
    final double[] cells = new double[8];
    int acts;

    Side(boolean isWide) {
      this.isWide = isWide;
    }

    int limit() {
      return isWide ? 1000000000 : 400000;
    }

    int put(int cell, double value) {
      boolean isSame = Double.doubleToLongBits(cells[cell]) == Double.doubleToLongBits(value);
      cells[cell] = value;
      acts++;
      return isSame ? 0 : 1;
    }

    double read(String decimal) {
      return isWide ? Double.parseDouble(decimal) : Float.parseFloat(decimal);
    }

    double made(int n, int k) {
      return n == 0 ? 0.0 : read(n + "E" + k);
    }

    double known(int which) {
      double greatest = isWide ? Double.MAX_VALUE : Float.MAX_VALUE;
      double least = isWide ? Double.MIN_VALUE : Float.MIN_VALUE;
      return new double[] {0.0, -0.0, 1 / 0.0, -1 / 0.0, greatest, least}[which];
    }

    int count(int cell) {
      double quarters = cells[cell] * 4;
      return quarters == Math.rint(quarters) && Math.abs(quarters) <= limit() ? (int) quarters : NO_QUARTER;
    }

    String text(int cell) {
      return text(cells[cell]);
    }

    private String text(double value) {
      if (Double.doubleToRawLongBits(value) < 0) {
        return "-" + text(-value);
      }
      if (value == 0) {
        return "0.0";
      }
      return Double.isInfinite(value) ? "Infinity" : written(told(value));
    }

    /** The decimal of least length that leads back, the nearest of these, the even one of two as near. */
    private BigDecimal told(double value) {
      BigDecimal exact = new BigDecimal(value);
      for (int length = 2; length < 20; length++) {
        BigDecimal below = exact.round(new MathContext(length, RoundingMode.DOWN));
        BigDecimal above = exact.round(new MathContext(length, RoundingMode.UP));
        boolean isBelow = below.signum() > 0 && read(below.toString()) == value;
        boolean isAbove = read(above.toString()) == value;
        if (isBelow && isAbove) {
          return exact.round(new MathContext(length, RoundingMode.HALF_EVEN));
        }
        if (isBelow || isAbove) {
          return isBelow ? below : above;
        }
      }
      throw new IllegalStateException("no decimal leads back to " + exact);
    }

    private static String written(BigDecimal told) {
      BigDecimal bare = told.stripTrailingZeros();
      if (bare.compareTo(new BigDecimal("0.001")) >= 0 && bare.compareTo(new BigDecimal("10000000")) < 0) {
        return bare.setScale(Math.max(bare.scale(), 1)).toPlainString();
      }
      String digits = bare.unscaledValue().toString();
      int power = digits.length() - 1 - bare.scale();
      return digits.charAt(0) + "." + (digits.length() == 1 ? "0" : digits.substring(1)) + "E" + power;
    }

    int form(int cell) {
      String text = text(cell);
      return text.endsWith("y") ? 2 : text.indexOf('E') >= 0 ? 1 : 0;
    }

    int power(int cell) {
      String text = text(cell);
      return form(cell) == 1 ? Integer.parseInt(text.substring(text.indexOf('E') + 1)) : -9999;
    }

    int digitCount(int cell) {
      return text(cell).replaceAll("E.*", "").replaceAll("[^0-9]", "").length();
    }

    int order(int one, int other) {
      return Double.compare(cells[one], cells[other]);
    }

    int textOrder(int one, int other) {
      return Integer.signum(text(one).compareTo(text(other)));
    }
  }

  private static String withoutMinus(String text) {
    return text.startsWith("-") ? text.substring(1) : text;
  }

  /** Both kinds, called the same way; what is asked of the class goes by the kind. */
  private static final class Pair {
    final Shortdecimals asked = new Shortdecimals();
    final Side wide = new Side(true);
    final Side narrow = new Side(false);
    int refusals;
    int knocks;

    long digest() {
      long sum = 7795;
      sum = sum * 31 + wide.acts;
      sum = sum * 31 + narrow.acts;
      sum = sum * 31 + refusals;
      sum = sum * 31 + knocks;
      for (int cell = 0; cell < 8; cell++) {
        long bits = Double.doubleToLongBits(wide.cells[cell]);
        sum = sum * 31 + (int) (bits >> 32);
        sum = sum * 31 + (int) bits;
        sum = digestOf(wide, cell, sum);
      }
      for (int cell = 0; cell < 8; cell++) {
        sum = sum * 31 + Float.floatToIntBits((float) narrow.cells[cell]);
        sum = digestOf(narrow, cell, sum);
      }
      sum = digestOfPairs(wide, sum);
      sum = digestOfPairs(narrow, sum);
      return sum * 31 + 1;
    }

    private static long digestOf(Side side, int cell, long start) {
      long sum = start * 31 + side.text(cell).length();
      sum = sum * 31 + side.text(cell).hashCode();
      sum = sum * 31 + side.form(cell);
      sum = sum * 31 + side.power(cell);
      sum = sum * 31 + side.digitCount(cell);
      return sum * 31 + side.count(cell);
    }

    private static long digestOfPairs(Side side, long start) {
      long sum = start;
      for (int one = 0; one < 8; one++) {
        for (int other = one + 1; other < 8; other++) {
          sum = sum * 31 + side.order(one, other);
          sum = sum * 31 + side.textOrder(one, other);
        }
      }
      return sum;
    }
  }

  // ---- the runs

  private static void oneRun(int run, Random random) {
    Pair pair = new Pair();
    int call = 0;
    while (call < CALLS) {
      boolean isWide = random.nextBoolean();
      String name = "run " + run + ", call " + call + (isWide ? ", wide" : ", narrow");
      if (random.nextInt(12) > 0) {
        change(name, pair, isWide, random);
        call++;
      } else {
        ask(name, pair, isWide, random);
        call += CALLS_OF_A_QUESTION;
      }
    }
    due("run " + run + " digest", pair.asked.digest(), pair.digest());
    due("run " + run + " isSound", pair.asked.isSound(), true);
  }

  private static int upTo(Random random, int limit) {
    int size = random.nextInt(4) == 0 ? limit : (int) Math.pow(limit, random.nextDouble());
    return random.nextInt(2 * size + 1) - size;
  }

  private static void change(String name, Pair pair, boolean isWide, Random random) {
    Shortdecimals x = pair.asked;
    Side side = isWide ? pair.wide : pair.narrow;
    int a = random.nextInt(8);
    int b = random.nextInt(8);
    int c = random.nextInt(8);
    switch (random.nextInt(10)) {
      case 0:
        int quarters = upTo(random, side.limit());
        due(name + " quarters " + quarters, isWide ? x.wideQuarters(a, quarters) : x.narrowQuarters(a, quarters),
            side.put(a, quarters / 4.0));
        break;
      case 1:
        int n = upTo(random, isWide ? 999999999 : 999999);
        int k = isWide ? random.nextInt(16) - 9 : random.nextInt(10) - 6;
        due(name + " made " + n + " " + k, isWide ? x.wideMade(a, n, k) : x.narrowMade(a, n, k),
            side.put(a, side.made(n, k)));
        break;
      case 2:
        int ten = isWide ? random.nextInt(45) - 22 : random.nextInt(21) - 10;
        due(name + " ten " + ten, isWide ? x.wideTen(a, ten) : x.narrowTen(a, ten), side.put(a, side.made(1, ten)));
        break;
      case 3:
        int which = random.nextInt(6);
        due(name + " known " + which, isWide ? x.wideKnown(a, which) : x.narrowKnown(a, which),
            side.put(a, side.known(which)));
        break;
      case 4:
        side.put(a, -side.cells[a]);
        due(name + " minus", isWide ? x.wideMinus(a) : x.narrowMinus(a), side.text(a).startsWith("-") ? 1 : 0);
        break;
      case 5:
        due(name + " copy", isWide ? x.wideCopy(a, b) : x.narrowCopy(a, b), side.put(b, side.cells[a]));
        break;
      case 6:
        double kept = side.cells[a];
        int changed = side.put(a, side.cells[b]);
        side.cells[b] = kept;
        due(name + " swap", isWide ? x.wideSwap(a, b) : x.narrowSwap(a, b), changed);
        break;
      case 7:
        due(name + " sum", isWide ? x.wideSum(a, b, c) : x.narrowSum(a, b, c), sum(pair, side, a, b, c));
        break;
      case 8:
        due(name + " narrowed", x.narrowed(a, b), moved(pair, pair.wide, a, pair.narrow, b));
        break;
      default:
        due(name + " widened", x.widened(a, b), moved(pair, pair.narrow, a, pair.wide, b));
        break;
    }
  }

  private static int sum(Pair pair, Side side, int one, int other, int into) {
    int first = side.count(one);
    int second = side.count(other);
    if (first == NO_QUARTER || second == NO_QUARTER || Math.abs((long) first + second) > side.limit()) {
      pair.refusals++;
      return REFUSED;
    }
    return side.put(into, side.cells[one] + side.cells[other]);
  }

  private static int moved(Pair pair, Side from, int source, Side into, int cell) {
    int count = from.count(source);
    boolean isQuarter = count != NO_QUARTER && Math.abs(count) <= into.limit();
    if (!isQuarter && !Double.isInfinite(from.cells[source])) {
      pair.refusals++;
      return REFUSED;
    }
    return into.put(cell, from.cells[source]);
  }

  private static void ask(String name, Pair pair, boolean isWide, Random random) {
    Shortdecimals x = pair.asked;
    Side side = isWide ? pair.wide : pair.narrow;
    int a = random.nextInt(8);
    int b = random.nextInt(8);
    String text = side.text(a);
    int way = random.nextInt(5);
    due(name + " text", isWide ? x.wideText(a, way) : x.narrowText(a, way), text);
    due(name + " length", isWide ? x.wideLength(a) : x.narrowLength(a), text.length());
    int place = random.nextInt(30) - 2;
    due(name + " sign", isWide ? x.wideSign(a, place) : x.narrowSign(a, place),
        place < 0 || place >= text.length() ? -1 : (int) text.charAt(place));
    due(name + " point", isWide ? x.widePoint(a) : x.narrowPoint(a), text.indexOf('.'));
    due(name + " power", isWide ? x.widePower(a) : x.narrowPower(a), side.power(a));
    due(name + " digits", isWide ? x.wideDigits(a) : x.narrowDigits(a), side.digitCount(a));
    due(name + " form", isWide ? x.wideForm(a) : x.narrowForm(a), side.form(a));
    due(name + " hash", isWide ? x.wideHash(a) : x.narrowHash(a), text.hashCode());
    due(name + " count", isWide ? x.wideCount(a) : x.narrowCount(a), side.count(a));
    for (int how = 0; how < 3; how++) {
      due(name + " same " + how, isWide ? x.wideSame(a, b, how) : x.narrowSame(a, b, how), text.equals(side.text(b)));
    }
    due(name + " order", isWide ? x.wideOrder(a, b) : x.narrowOrder(a, b), side.order(a, b));
    due(name + " text order", isWide ? x.wideTextOrder(a, b) : x.narrowTextOrder(a, b), side.textOrder(a, b));
    due(name + " like", isWide ? x.wideLike(a, b) : x.narrowLike(a, b),
        withoutMinus(text).equals(withoutMinus(side.text(b))));
    StringBuilder all = new StringBuilder();
    for (int cell = a; cell <= b; cell++) {
      all.append(cell > a ? " " : "").append(side.text(cell));
    }
    due(name + " texts", isWide ? x.wideTexts(a, b) : x.narrowTexts(a, b), all.toString());
    askBoth(name, pair, a, b, isWide);
    pair.knocks++;
    due(name + " knock", x.knock(), pair.knocks);
    due(name + " house", x.house(0) + " " + x.house(1) + " " + x.house(2) + " " + x.house(3),
        pair.wide.acts + " " + pair.narrow.acts + " " + pair.refusals + " " + pair.knocks);
  }

  private static void askBoth(String name, Pair pair, int a, int b, boolean isWideFirst) {
    Shortdecimals x = pair.asked;
    String wide = pair.wide.text(a);
    String narrow = pair.narrow.text(b);
    long bits = Double.doubleToLongBits(pair.wide.cells[a]);
    due(name + " upper", x.upper(a), (int) (bits >> 32));
    due(name + " lower", x.lower(a), (int) bits);
    due(name + " narrow digits", x.digits(b), Float.floatToIntBits((float) pair.narrow.cells[b]));
    due(name + " alike", x.areAlike(a, b), wide.equals(narrow));
    due(name + " both's order", x.textOrder(a, b), Integer.signum(wide.compareTo(narrow)));
    due(name + " both", x.both(a, b, isWideFirst), isWideFirst ? wide + " " + narrow : narrow + " " + wide);
  }

  private static void everyTenAndKnown() {
    Pair pair = new Pair();
    for (int k = -22; k <= 22; k++) {
      pair.asked.wideTen(0, k);
      pair.wide.put(0, pair.wide.made(1, k));
      due("wide ten " + k, pair.asked.wideText(0, 0), pair.wide.text(0));
      due("wide ten " + k + " lower", pair.asked.lower(0), (int) Double.doubleToLongBits(pair.wide.cells[0]));
    }
    for (int k = -10; k <= 10; k++) {
      pair.asked.narrowTen(0, k);
      pair.narrow.put(0, pair.narrow.made(1, k));
      due("narrow ten " + k, pair.asked.narrowText(0, 0), pair.narrow.text(0));
      due("narrow ten " + k + " digits", pair.asked.digits(0), Float.floatToIntBits((float) pair.narrow.cells[0]));
    }
  }
}
