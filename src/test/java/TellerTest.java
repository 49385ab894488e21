import java.lang.reflect.Field;
import java.lang.reflect.Method;
import java.math.BigDecimal;
import java.math.MathContext;
import java.math.RoundingMode;
import java.util.Random;

/**
 * The decimals told of numbers that no call can make: powers of two, numbers near to 0, ties. The face reaches only few
 * numbers, and most of these have short texts; so this test reaches behind it, and goes with the class's inside.
 */
public final class TellerTest extends Checks {
  private static final int NUMBERS = 60000;
  /** The rows that the numbers are reckoned in are used again: what stood there must not be seen where all is close. */
  private static final int NUMBERS_BETWEEN_TIES = 500;

  private static Object teller;
  private static Object cell;
  private static Method tell;

  public static void main(String[] args) throws Exception {
    Shortdecimals x = new Shortdecimals();
    Object wideKind = read(read(x, "wides"), "kind");
    Object narrowKind = read(read(x, "narrows"), "kind");
    teller = read(read(x, "wides"), "teller");
    cell = ((Object[]) read(read(x, "wides"), "cells"))[0];
    tell = teller.getClass().getDeclaredMethod("tell", wideKind.getClass(), cell.getClass());
    tell.setAccessible(true);
    sentence("TOLD of it: of all DECIMALS of a LENGTH of LEAST at most that ROUND to it that with the least difference from it");
    Random random = new Random(1);
    for (int i = 0; i < NUMBERS; i++) {
      check(wideKind, wideBody(i, random), true);
      check(narrowKind, narrowBody(i, random), false);
      if (i % NUMBERS_BETWEEN_TIES == 0) {
        ties(wideKind, narrowKind);
      }
    }
    end();
  }

  private static Object read(Object from, String name) throws Exception {
    Field field = from.getClass().getDeclaredField(name);
    field.setAccessible(true);
    return field.get(from);
  }

  private static long wideBody(int i, Random random) {
    long body = random.nextLong() & Long.MAX_VALUE;
    switch (i % 7) {
      case 0:
        return body & 0x7ff0000000000000L;
      case 1:
        return body & 0x000fffffffffffffL;
      case 2:
        return body & 0x7ff000000000003fL;
      case 3:
        return i;
      case 4:
        return Double.doubleToLongBits(Math.scalb(1.0 + random.nextInt(1000), random.nextInt(2000) - 1070));
      case 5:
        return Double.doubleToLongBits(Double.parseDouble(1 + random.nextInt(1000) + "E" + (random.nextInt(600) - 310)));
      default:
        return body;
    }
  }

  private static long narrowBody(int i, Random random) {
    int body = random.nextInt() & Integer.MAX_VALUE;
    int[] bodies = {body & 0x7f800000, body & 0x007fffff, body & 0x7f80003f, i, body};
    return bodies[i % bodies.length];
  }

  private static void check(Object kind, long body, boolean isWide) throws Exception {
    double value = isWide ? Double.longBitsToDouble(body) : Float.intBitsToFloat((int) body);
    if (!(value > 0) || Double.isInfinite(value)) {
      return;
    }
    Field bodyField = cell.getClass().getDeclaredField("body");
    bodyField.setAccessible(true);
    bodyField.setLong(cell, body);
    tell.invoke(teller, kind, cell);
    long told = (Long) read(cell, "told");
    int power = (Integer) read(cell, "power");
    BigDecimal got = BigDecimal.valueOf(told).scaleByPowerOfTen(power + 1 - Long.toString(told).length());
    BigDecimal due = due(value, isWide);
    int form = due.compareTo(new BigDecimal("0.001")) >= 0 && due.compareTo(new BigDecimal("10000000")) < 0 ? 0 : 1;
    String name = value + (isWide ? ", wide" : ", narrow");
    due("TOLD of " + name + ", less what is due", got.subtract(due).signum(), 0);
    due("is the last digit of TOLD of " + name + " 0", told % 10 == 0, false);
    due("FORM of " + name, read(cell, "form"), form);
  }

  /** Decimals that lie just between two numbers, two of as near, all nines, and what stands next to these. */
  private static void ties(Object wideKind, Object narrowKind) throws Exception {
    sentence("of two as near, both written with d of LEAST digits, that with even d.");
    checkOne(narrowKind, 2097152.25, "2097152.2");
    checkOne(narrowKind, 2097152.75, "2097152.8");
    checkOne(wideKind, 1125899906842624.25, "1125899906842624.2");
    checkOne(wideKind, 1125899906842624.75, "1125899906842624.8");
    sentence("of two as near the one whose FRACTION is even");
    checkOne(narrowKind, 33554448, "33554450");
    checkOne(narrowKind, 33554452, "33554452");
    checkOne(narrowKind, 8999999488.0, "9E9");
    checkOne(narrowKind, 9000000512.0, "9.000001E9");
    checkOne(wideKind, 9007199254740992.0, "9007199254740992");
    checkOne(wideKind, 9007199254740994.0, "9007199254740994");
    sentence("LEAST of a FINITE NUMBER above 0: the least n from 2 on so that a DECIMAL of a LENGTH of n at most ROUNDS to it.");
    checkOne(wideKind, 2e23, "2E23");
    checkOne(wideKind, 2e-3, "2E-3");
    checkOne(wideKind, 1e23, "1E23");
    checkOne(wideKind, Double.MIN_NORMAL, "2.2250738585072014E-308");
    checkOne(wideKind, Double.MIN_VALUE * 2, "9.9E-324");
    checkOne(wideKind, Double.MIN_VALUE, "4.9E-324");
    checkOne(wideKind, Double.MAX_VALUE, "1.7976931348623157E308");
    checkOne(narrowKind, Float.MIN_NORMAL, "1.1754944E-38");
    checkOne(narrowKind, Float.MIN_VALUE, "1.4E-45");
    checkOne(narrowKind, Float.MIN_VALUE * 2, "2.8E-45");
    checkOne(narrowKind, Float.MAX_VALUE, "3.4028235E38");
    checkOne(narrowKind, 0x1p-44, "5.684342E-14");
    sentence("0 PLAIN, if TOLD is at least 10^-3 and below 10^7");
    checkOne(wideKind, Math.nextDown(1e7), "9999999.999999998");
    checkOne(wideKind, Math.nextDown(1e-3), "9.999999999999998E-4");
    checkOne(narrowKind, Math.nextDown(1e7f), "9999999");
    checkOne(narrowKind, Math.nextDown(1e-3f), "9.999999E-4");
  }

  private static void checkOne(Object kind, double value, String due) throws Exception {
    boolean isWide = ((Enum<?>) kind).ordinal() == 0;
    check(kind, isWide ? Double.doubleToLongBits(value) : Float.floatToIntBits((float) value), isWide);
    due("TOLD of " + value + " by this test", due(value, isWide).compareTo(new BigDecimal(due)), 0);
  }

  private static BigDecimal due(double value, boolean isWide) {
    BigDecimal exact = new BigDecimal(value);
    for (int length = 2; length < 20; length++) {
      BigDecimal below = exact.round(new MathContext(length, RoundingMode.DOWN));
      BigDecimal above = exact.round(new MathContext(length, RoundingMode.UP));
      boolean isBelow = leadsBack(below, value, isWide);
      boolean isAbove = leadsBack(above, value, isWide);
      if (isBelow && isAbove) {
        return exact.round(new MathContext(length, RoundingMode.HALF_EVEN));
      }
      if (isBelow || isAbove) {
        return isBelow ? below : above;
      }
    }
    throw new IllegalStateException("no decimal leads back to " + exact);
  }

  private static boolean leadsBack(BigDecimal decimal, double value, boolean isWide) {
    String text = decimal.toString();
    return (isWide ? Double.parseDouble(text) : Float.parseFloat(text)) == value;
  }
}
