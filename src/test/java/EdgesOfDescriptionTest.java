import java.math.BigDecimal;
import java.math.BigInteger;

/** Each sentence of the description that names an edge: the sentence is quoted, and then what it asks is checked. */
public final class EdgesOfDescriptionTest extends Checks {
  public static void main(String[] args) {
    refusedChangesNothing();
    refusedIsCounted();
    thrownChangesNothing();
    firstNamedIsThrown();
    exceptionsGoAheadOfRefused();
    aCallsLimit();
    eightCellsOfAKind();
    for (Side side : Side.values()) {
      numbers(side);
      acts(side);
      texts(side);
    }
    narrowTies();
    orderOfTextsOfBothKinds();
    end();
  }

  // ---- ahead of all

  private static void refusedChangesNothing() {
    sentence("REFUSED is -9: nothing changes then, and it is counted.");
    for (Calls.OfCell each : Calls.refused()) {
      for (int cell = 0; cell < 8; cell++) {
        int into = cell;
        refused(each.name + " into " + into, filled(), x -> each.on.call(x, into));
      }
    }
  }

  private static void refusedIsCounted() {
    sentence("REFUSED is -9: nothing changes then, and it is counted.");
    Shortdecimals x = filled();
    due("house(2) of an object without refusals", x.house(2), 0);
    int refusals = 0;
    for (Calls.OfCell each : Calls.refused()) {
      due(each.name, each.on.call(x, 7), REFUSED);
      refusals++;
      due("house(2) after " + refusals + " refusals of all kinds", x.house(2), refusals);
    }
  }

  private static void thrownChangesNothing() {
    sentence("A method that throws an exception changes nothing.");
    for (Calls.OfCell each : Calls.withOneCell()) {
      for (int cell : NO_CELLS) {
        noCell(each.name + " of cell " + cell, x -> each.on.call(x, cell));
      }
    }
    for (Calls.OfCell each : Calls.withAWrongRest()) {
      for (int cell = 0; cell < 8; cell++) {
        int right = cell;
        illegal(each.name + " of cell " + right, x -> each.on.call(x, right));
      }
    }
    for (int what : new int[] {-1, 4}) {
      illegal("house(" + what + ")", x -> x.house(what));
    }
  }

  private static void firstNamedIsThrown() {
    sentence("If several exceptions apply, the one that is named first is thrown");
    for (Calls.OfCell each : Calls.withAWrongRest()) {
      for (int cell : NO_CELLS) {
        noCell(each.name + " of cell " + cell, x -> each.on.call(x, cell));
      }
    }
  }

  private static void exceptionsGoAheadOfRefused() {
    sentence("exceptions go ahead of -9.");
    for (Calls.OfCell each : Calls.refused()) {
      for (int cell : NO_CELLS) {
        noCell(each.name + " into cell " + cell, x -> each.on.call(x, cell));
      }
    }
  }

  private static void aCallsLimit() {
    sentence("An object is used for at most 512 calls after it has been made");
    Shortdecimals x = new Shortdecimals();
    for (int call = 1; call <= 512; call++) {
      due("knock " + call, x.knock(), call);
    }
    Shortdecimals y = new Shortdecimals();
    for (int call = 1; call <= 511; call++) {
      due("minus " + call, y.wideMinus(0), call % 2);
    }
    due("acts up to the last call", y.house(0), 511);
    Shortdecimals z = new Shortdecimals();
    z.narrowKnown(0, 2);
    for (int call = 2; call <= 511; call++) {
      due("sum of no QUARTER " + call, z.narrowSum(0, 0, 0), REFUSED);
    }
    due("refusals up to the last call", z.house(2), 510);
    Shortdecimals last = filled();
    long digest = last.digest();
    for (int call = 17; call <= 511; call++) {
      last.isSound();
    }
    due("digest as the last call", last.digest(), digest);
  }

  // ---- 1. Numbers

  private static void eightCellsOfAKind() {
    sentence("There are eight WIDE cells, 0 to 7, and eight NARROW ones, 0 to 7");
    for (Calls.OfCell each : Calls.withOneCell()) {
      for (int cell : new int[] {0, 1, 6, 7}) {
        due(each.name + " of cell " + cell + " throws", isThrowing(each, cell), false);
      }
      for (int cell : new int[] {-1, 8}) {
        due(each.name + " of cell " + cell + " throws", isThrowing(each, cell), true);
      }
    }
    for (int cell = 0; cell < 8; cell++) {
      Shortdecimals x = new Shortdecimals();
      x.wideQuarters(cell, 4);
      x.narrowQuarters(7 - cell, 8);
      for (int other = 0; other < 8; other++) {
        due("wide cell " + other + " after a change of " + cell, x.wideText(other, 0), other == cell ? "1.0" : "0.0");
        due("narrow cell " + other + " after a change of " + (7 - cell), x.narrowText(other, 0),
            other == 7 - cell ? "2.0" : "0.0");
      }
    }
  }

  private static boolean isThrowing(Calls.OfCell each, int cell) {
    try {
      each.on.call(new Shortdecimals(), cell);
      return false;
    } catch (RuntimeException e) {
      return true;
    }
  }

  private static void numbers(Side side) {
    atFirst(side);
    digits(side);
    exponents(side);
    leastAndGreatest(side);
    endless(side);
    belowZero(side);
    same(side);
    nearest(side);
    quarters(side);
  }

  private static void atFirst(Side side) {
    sentence("each holds a NUMBER of its kind, at first the ZERO without SIGN.");
    Shortdecimals x = new Shortdecimals();
    for (int cell = 0; cell < 8; cell++) {
      due("digits", side.bits(x, cell), side.of("0000000000000000", "00000000"));
      due("text", side.text(x, cell), "0.0");
      due("it becomes the ZERO without SIGN", side.known(x, cell, 0), 0);
    }
  }

  private static void digits(Side side) {
    sentence("its DIGITS are these 64 or 32, one behind the other, SIGN first.");
    Shortdecimals x = new Shortdecimals();
    int[] quarters = {4, -4, 8, 3, -3, 1, 400000, -399999};
    String[] wide = {"3ff0000000000000", "bff0000000000000", "4000000000000000", "3fe8000000000000", "bfe8000000000000",
      "3fd0000000000000", "40f86a0000000000", "c0f869fc00000000"};
    String[] narrow = {"3f800000", "bf800000", "40000000", "3f400000", "bf400000", "3e800000", "47c35000", "c7c34fe0"};
    for (int i = 0; i < quarters.length; i++) {
      side.quarters(x, 0, quarters[i]);
      due("digits of " + quarters[i] + " quarters", side.bits(x, 0), side.of(wide, narrow)[i]);
    }
  }

  private static void exponents(Side side) {
    sentence("M is 52 or 23, B 1023 or 127, TOP 2047 or 255.");
    Shortdecimals x = new Shortdecimals();
    for (int twos = 0; 1 << twos <= side.limit; twos++) {
      side.quarters(x, 0, 1 << twos);
      due("2^" + (twos - 2), body(side, x, 0), (long) (side.of(1023, 127) + twos - 2) << side.of(52, 23));
    }
    side.known(x, 0, 2);
    due("an ENDLESS one", body(side, x, 0), (long) side.of(2047, 255) << side.of(52, 23));
  }

  private static void leastAndGreatest(Side side) {
    Shortdecimals x = new Shortdecimals();
    sentence("EXPONENT 0, FRACTION 0: a ZERO.");
    side.known(x, 0, 1);
    due("digits of the ZERO with SIGN", side.bits(x, 0), side.of("8000000000000000", "80000000"));
    sentence("EXPONENT 0: FRACTION * 2^(1 - B - M).");
    side.known(x, 1, 5);
    due("digits of the least one above 0", side.bits(x, 1), side.of("0000000000000001", "00000001"));
    due("its text", side.text(x, 1), side.of("4.9E-324", "1.4E-45"));
    due("it stands behind the ZERO", side.order(x, 1, 2), 1);
    due("it is not SAME as the ZERO", side.same(x, 1, 2, 0), false);
    sentence("EXPONENT 1 to TOP - 1: (2^M + FRACTION) * 2^(EXPONENT - B - M).");
    side.known(x, 3, 4);
    due("digits of the greatest one", side.bits(x, 3), side.of("7fefffffffffffff", "7f7fffff"));
    due("its text", side.text(x, 3), side.of("1.7976931348623157E308", "3.4028235E38"));
    side.minus(x, 3);
    due("digits of that below 0", side.bits(x, 3), side.of("ffefffffffffffff", "ff7fffff"));
    due("its text", side.text(x, 3), side.of("-1.7976931348623157E308", "-3.4028235E38"));
  }

  private static void endless(Side side) {
    sentence("TOP with FRACTION 0: ENDLESS");
    Shortdecimals x = new Shortdecimals();
    side.known(x, 0, 2);
    due("digits", side.bits(x, 0), side.of("7ff0000000000000", "7f800000"));
    side.minus(x, 0);
    due("digits with SIGN 1", side.bits(x, 0), side.of("fff0000000000000", "ff800000"));
    sentence("FINITE are all but ENDLESS ones.");
    due("quarters of an ENDLESS one", side.count(x, 0), NO_QUARTER);
    refused("sum of an ENDLESS one and a ZERO", x, y -> side.sum(y, 0, 1, 1));
    refused("sum of the ENDLESS ones of both SIGNS", x, y -> side.sum(y, 0, 0, 1));
  }

  private static void belowZero(Side side) {
    sentence("With SIGN 1 that below 0 (the ZERO stays 0).");
    Shortdecimals x = new Shortdecimals();
    side.known(x, 0, 1);
    due("quarters of the ZERO with SIGN", side.count(x, 0), 0);
    side.quarters(x, 1, -5);
    due("sum with the ZERO with SIGN", side.sum(x, 1, 0, 2), 1);
    due("its quarters", side.count(x, 2), -5);
    due("-1.25 stands ahead of the ZERO with SIGN", side.order(x, 1, 0), -1);
  }

  private static void same(Side side) {
    sentence("SAME are two with the same DIGITS.");
    Shortdecimals x = new Shortdecimals();
    side.known(x, 1, 1);
    due("both ZEROS", side.same(x, 0, 1, 0), false);
    side.quarters(x, 0, 2);
    side.made(x, 1, 5, -1);
    side.made(x, 2, 500, -3);
    side.quarters(x, 3, 1);
    side.sum(x, 3, 3, 3);
    for (int cell = 1; cell < 4; cell++) {
      due("0.5 by another way " + cell, side.same(x, 0, cell, 0), true);
    }
    side.known(x, 0, 2);
    side.known(x, 1, 3);
    due("both ENDLESS ones", side.same(x, 0, 1, 0), false);
    side.minus(x, 1);
    due("both ENDLESS ones without SIGN", side.same(x, 0, 1, 0), true);
  }

  private static void nearest(Side side) {
    sentence("of all FINITE ones above 0 that with the least difference from v, of two as near the one whose FRACTION is even");
    for (int k = side.madeLowest; k <= side.madeHighest; k++) {
      for (int i = 1; i <= 300; i++) {
        Shortdecimals x = new Shortdecimals();
        for (int n : new int[] {i, side.madeLimit + 1 - i, side.madeLimit / 301 * i}) {
          side.made(x, 0, n, k);
          due(n + " * 10^" + k + " is as near as can be", isNearest(side, body(side, x, 0), n, k), true);
        }
      }
    }
    Shortdecimals x = new Shortdecimals();
    for (int k = -side.tenLimit; k <= side.tenLimit; k++) {
      side.ten(x, 0, k);
      due("10^" + k + " is as near as can be", isNearest(side, body(side, x, 0), 1, k), true);
    }
    sentence("Of one below 0 likewise, with SIGN 1.");
    for (int n : new int[] {1, 3, 7, 33333, 134219, 134221, 268437, 268439, side.madeLimit}) {
      x = new Shortdecimals();
      for (int k = side.madeLowest; k <= side.madeHighest; k++) {
        side.made(x, 0, n, k);
        side.made(x, 1, -n, k);
        due("the digits but for SIGN of -" + n + " * 10^" + k, body(side, x, 1), body(side, x, 0));
        due("its SIGN", side.minus(x, 1), 0);
      }
    }
  }

  private static boolean isNearest(Side side, long body, int n, int k) {
    BigDecimal wanted = BigDecimal.valueOf(n).scaleByPowerOfTen(k);
    BigDecimal step = value(side, body).subtract(wanted).abs();
    int below = step.compareTo(value(side, body - 1).subtract(wanted).abs());
    int above = step.compareTo(value(side, body + 1).subtract(wanted).abs());
    boolean isEven = (body & 1) == 0;
    return isEven ? below <= 0 && above <= 0 : below < 0 && above < 0;
  }

  /** The DIGITS but for SIGN. */
  private static long body(Side side, Shortdecimals x, int cell) {
    long upper = x.upper(cell) & 0x7fffffffL;
    return side.isWide ? upper << 32 | (x.lower(cell) & 0xffffffffL) : x.digits(cell) & 0x7fffffffL;
  }

  /** The value of a FINITE one with an EXPONENT that is not 0, by the words of the document. */
  private static BigDecimal value(Side side, long body) {
    int m = side.of(52, 23);
    int twos = (int) (body >> m) - side.of(1023, 127) - m;
    BigDecimal whole = BigDecimal.valueOf((1L << m) + (body & (1L << m) - 1));
    BigDecimal power = new BigDecimal(BigInteger.TWO.pow(Math.abs(twos)));
    return twos < 0 ? whole.divide(power) : whole.multiply(power);
  }

  /** Whatever is made of a WIDE one has less digits than could lie halfway; of these here just some do. */
  private static void narrowTies() {
    sentence("of two as near the one whose FRACTION is even");
    int[] n = {134217, 134219, 134221, 268437, 268438, 268439, 268442, 536875, 536876, 536877, 536884, 671089, 671091};
    int[] k = {3, 3, 3, 3, 3, 3, 3, 3, 3, 3, 3, 2, 2};
    int[] digits = {0x4cffffa5, 0x4d000050, 0x4d0000cc, 0x4d800030, 0x4d800050, 0x4d80006f, 0x4d8000cc, 0x4e000040,
      0x4e000050, 0x4e00005f, 0x4e0000cc, 0x4c800004, 0x4c80001e};
    Shortdecimals x = new Shortdecimals();
    for (int i = 0; i < n.length; i++) {
      x.narrowMade(0, n[i], k[i]);
      due("digits of " + n[i] + " * 10^" + k[i], Integer.toHexString(x.digits(0)), Integer.toHexString(digits[i]));
      x.narrowMade(0, -n[i], k[i]);
      due("digits of that below 0", Integer.toHexString(x.digits(0)), Integer.toHexString(digits[i] | 1 << 31));
    }
  }

  private static void quarters(Side side) {
    sentence("A QUARTER is a FINITE NUMBER that is n / 4, with a whole n of -1000000000 to 1000000000 (WIDE), of -400000 to"
        + " 400000 (NARROW); both ZEROS are.");
    Shortdecimals x = new Shortdecimals();
    due("the ZERO", side.count(x, 0), 0);
    side.known(x, 0, 1);
    due("the ZERO with SIGN", side.count(x, 0), 0);
    for (int quarters : new int[] {1, -1, side.limit - 1, 1 - side.limit, side.limit, -side.limit}) {
      side.quarters(x, 0, quarters);
      due(quarters + " quarters", side.count(x, 0), quarters);
    }
    // n and k of what is none: what stands next to a QUARTER, half of one, and what is just too far from 0
    int[][] wide = {{249999999, -9}, {250000001, -9}, {125, -3}, {375, -3}, {250000001, 0}, {999999999, 6}, {1, -9},
      {249999999, -3}};
    int[][] narrow = {{249999, -6}, {250001, -6}, {125, -3}, {375, -3}, {100001, 0}, {999999, 3}, {1, -6}, {999998, -1}};
    for (int[] parts : side.of(wide, narrow)) {
      String name = parts[0] + " * 10^" + parts[1];
      x = new Shortdecimals();
      side.made(x, 0, parts[0], parts[1]);
      due(name, side.count(x, 0), NO_QUARTER);
      refused("sum with " + name, x, y -> side.sum(y, 0, 1, 2));
      side.made(x, 0, -parts[0], parts[1]);
      due("-" + name, side.count(x, 0), NO_QUARTER);
    }
    for (int which = 2; which < 6; which++) {
      side.known(x, 0, which);
      due("a KNOWN one, " + which, side.count(x, 0), NO_QUARTER);
    }
    // so many quarters as leave nothing or the least number of 32 binary digits
    side.made(x, 0, side.of(16777216, 524288), side.of(6, 3));
    due("2^24 * 10^6, or 2^19 * 10^3", side.count(x, 0), NO_QUARTER);
    side.made(x, 0, side.of(8388608, 262144), side.of(6, 3));
    due("2^23 * 10^6, or 2^18 * 10^3", side.count(x, 0), NO_QUARTER);
    side.made(x, 0, side.of(536870912, 100000), 0);
    due("2^29, or 100000", side.count(x, 0), side.of(NO_QUARTER, 400000));
  }

  // ---- 2. Texts

  private static void texts(Side side) {
    lengthOfLeast(side);
    plain(side);
    split(side);
    endlessAndSign(side);
    ways(side);
  }

  private static void lengthOfLeast(Side side) {
    sentence("LEAST of a FINITE NUMBER above 0: the least n from 2 on so that a DECIMAL of a LENGTH of n at most ROUNDS to it.");
    Shortdecimals x = new Shortdecimals();
    side.known(x, 0, 5);
    due("text of the least one, which one digit would tell too", side.text(x, 0), side.of("4.9E-324", "1.4E-45"));
    due("its digits", side.digits(x, 0), 2);
    side.known(x, 0, 4);
    due("digits of the greatest one", side.digits(x, 0), side.of(17, 8));
    side.made(x, 0, side.madeLimit, side.madeLowest);
    due("digits of as many nines as can be", side.digits(x, 0), side.of(10, 7));
    side.quarters(x, 0, side.limit - 1);
    due("text of the most digits that quarters have", side.text(x, 0), side.of("2.4999999975E8", "99999.75"));
    nextToNone(side);
    sentence("it has LENGTH n, if d, without zeros at its end, has n digits.");
    side.made(x, 0, 123000, 3);
    due("text of 123000 * 10^3", side.text(x, 0), "1.23E8");
    side.made(x, 0, 100000, -6);
    due("text of 100000 * 10^-6", side.text(x, 0), "0.1");
  }

  /** With one digit less, the greatest one would be told by a v that has no NEAREST; so would the least one by 2E-324. */
  private static void nextToNone(Side side) {
    sentence("(a v that is half a step or more above the greatest one, or half of the least one or less, has none; the last"
        + " step up to the greatest one is 2^971, or 2^104)");
    Shortdecimals x = new Shortdecimals();
    side.known(x, 0, 4);
    side.known(x, 1, 5);
    due("the greatest and the least one", side.texts(x, 0, 1),
        side.of("1.7976931348623157E308 4.9E-324", "3.4028235E38 1.4E-45"));
    BigDecimal halfStep = new BigDecimal(BigInteger.TWO.pow(side.of(970, 103)));
    BigDecimal greatest = value(side, body(side, x, 0));
    due("is what is told less than half a step away", new BigDecimal(side.text(x, 0)).subtract(greatest).abs().compareTo(halfStep),
        -1);
    due("is that with one digit less", new BigDecimal(side.of("1.797693134862316E308", "3.402824E38")).subtract(greatest)
        .compareTo(halfStep), 1);
  }

  private static void plain(Side side) {
    sentence("0 PLAIN, if TOLD is at least 10^-3 and below 10^7");
    form(side, 1, -3, 0, "0.001");
    form(side, 1000, -6, 0, "0.001");
    form(side, 1001, -6, 0, "0.001001");
    form(side, 999, -6, 1, "9.99E-4");
    form(side, 1, -4, 1, "1.0E-4");
    form(side, 999999, 1, 0, "9999990.0");
    form(side, 1000, 3, 0, "1000000.0");
    form(side, 10000, 3, 1, "1.0E7");
    form(side, 100001, 2, 1, "1.00001E7");
    if (side.isWide) {
      form(side, 1000001, -9, 0, "0.001000001");
      form(side, 999999, -9, 1, "9.99999E-4");
      form(side, 999999999, -2, 0, "9999999.99");
      form(side, 10000000, 0, 1, "1.0E7");
      form(side, 100000001, -1, 1, "1.00000001E7");
    }
    sentence("the whole part of TOLD (\"0\", if it has none)");
    form(side, 999999, -6, 0, "0.999999");
    form(side, 1, 0, 0, "1.0");
    form(side, 10, -1, 0, "1.0");
    sentence("its digits behind the point up to the last that is not 0 (\"0\", if there are none)");
    form(side, 100200, -3, 0, "100.2");
    form(side, 1200, -2, 0, "12.0");
    form(side, 120, 1, 0, "1200.0");
    form(side, 100100, -5, 0, "1.001");
    sentence("FORM of a ZERO: 0.");
    form(side, 0, 0, 0, "0.0");
  }

  private static void split(Side side) {
    sentence("its other digits up to the last that is not 0 (\"0\", if there are none)");
    form(side, 2000, -4, 0, "0.2");
    form(side, 20000, 3, 1, "2.0E7");
    form(side, 200100, 2, 1, "2.001E7");
    form(side, 123400, 3, 1, "1.234E8");
    sentence("the power of ten of the first digit, with \"-\" ahead if that is below 0.");
    form(side, 99, -5, 1, "9.9E-4");
    form(side, 1, -6, 1, "1.0E-6");
    form(side, 12, -6, 1, "1.2E-5");
    form(side, 99999, 3, 1, "9.9999E7");
    Shortdecimals x = new Shortdecimals();
    side.ten(x, 0, -side.tenLimit);
    due("the least power of ten", side.text(x, 0), side.of("1.0E-22", "1.0E-10"));
    side.ten(x, 0, side.tenLimit);
    due("the greatest power of ten", side.text(x, 0), side.of("1.0E22", "1.0E10"));
    side.made(x, 0, side.madeLimit, side.madeHighest);
    due("the greatest that is made", side.text(x, 0), side.of("9.99999999E14", "9.99999E8"));
    side.made(x, 0, 1, side.madeLowest);
    due("the least that is made", side.text(x, 0), side.of("1.0E-9", "1.0E-6"));
  }

  /** FORM and TEXT, without SIGN and with it. */
  private static void form(Side side, int n, int k, int form, String text) {
    String name = n + " * 10^" + k;
    Shortdecimals x = new Shortdecimals();
    side.made(x, 0, n, k);
    due("text of " + name, side.text(x, 0), text);
    due("form of " + name, side.form(x, 0), form);
    side.minus(x, 0);
    due("text of -" + name, side.text(x, 0), "-" + text);
    due("form of -" + name, side.form(x, 0), form);
  }

  private static void endlessAndSign(Side side) {
    sentence("ENDLESS: \"Infinity\" (FORM 2). With SIGN 1 \"-\" ahead of all.");
    Shortdecimals x = new Shortdecimals();
    side.known(x, 0, 2);
    side.known(x, 1, 3);
    due("texts", side.texts(x, 0, 1), "Infinity -Infinity");
    due("forms", side.form(x, 0) + side.form(x, 1), 4);
    side.known(x, 1, 5);
    side.minus(x, 1);
    due("text of the least one below 0", side.text(x, 1), side.of("-4.9E-324", "-1.4E-45"));
    sentence("FORM of a ZERO: 0.");
    side.known(x, 0, 1);
    due("of that with SIGN", side.form(x, 0), 0);
    due("its text", side.text(x, 0), "-0.0");
  }

  private static void ways(Side side) {
    sentence("All tell the same.");
    Shortdecimals x = filled();
    for (int cell = 0; cell < 8; cell++) {
      String texts = side.texts(x, cell, cell);
      for (int twice = 0; twice < 2; twice++) {
        for (int way = 0; way < 5; way++) {
          due("cell " + cell + " by way " + way, side.text(x, cell, way), texts);
        }
      }
    }
  }

  // ---- 3. Acts

  private static void acts(Side side) {
    actsTell(side);
    madeOfZero(side);
    known(side);
    sumAtTheEdges(side);
    sumOfZero(side);
    order(side);
    orderOfTexts(side);
  }

  private static void actsTell(Side side) {
    sentence("An ACT tells 1, if one that is not SAME stood in the cell ahead, otherwise 0.");
    Shortdecimals x = new Shortdecimals();
    due("the ZERO instead of itself", side.quarters(x, 0, 0), 0);
    due("the ZERO with SIGN instead of that without", side.known(x, 0, 1), 1);
    due("the ZERO with SIGN instead of itself", side.known(x, 0, 1), 0);
    due("the ZERO instead of that with SIGN", side.made(x, 0, 0, 0), 1);
    due("1.0 instead of the ZERO", side.ten(x, 0, 0), 1);
    due("1.0 instead of 1.0", side.made(x, 0, 1000, -3), 0);
    due("-1.0 instead of 1.0", side.quarters(x, 0, -4), 1);
    due("ENDLESS instead of -1.0", side.known(x, 0, 2), 1);
    due("ENDLESS instead of itself", side.known(x, 0, 2), 0);
    due("ENDLESS below 0 instead of that above", side.known(x, 0, 3), 1);
    due("a copy onto itself", side.copy(x, 0, 0), 0);
    due("a copy of the ZERO onto that", side.copy(x, 1, 0), 1);
    due("a sum of ZEROS onto the ZERO", side.sum(x, 0, 1, 1), 0);
    // 999999999 and 999999998 lie so near that only the last of their binary digits are unlike
    side.made(x, 0, side.madeLimit, side.madeLowest);
    due("one that is only little more", side.made(x, 0, side.madeLimit - 1, side.madeLowest), 1);
  }

  private static void madeOfZero(Side side) {
    sentence("of n 0 the ZERO without SIGN");
    Shortdecimals x = new Shortdecimals();
    for (int k = side.madeLowest; k <= side.madeHighest; k++) {
      side.known(x, 0, 1);
      due("0 * 10^" + k + " instead of the ZERO with SIGN", side.made(x, 0, 0, k), 1);
      due("its digits", side.bits(x, 0), side.of("0000000000000000", "00000000"));
    }
  }

  private static void known(Side side) {
    sentence("KNOWN ones: 0 the ZERO without SIGN, 1 with SIGN 1, 2 ENDLESS, 3 ENDLESS with SIGN 1, 4 the greatest FINITE one,"
        + " 5 the least above 0.");
    Shortdecimals x = new Shortdecimals();
    for (int which = 0; which < 6; which++) {
      side.known(x, which, which);
    }
    due("texts", side.texts(x, 0, 5),
        "0.0 -0.0 Infinity -Infinity " + side.of("1.7976931348623157E308 4.9E-324", "3.4028235E38 1.4E-45"));
  }

  private static void sumAtTheEdges(Side side) {
    sentence("SUM of two QUARTERS: that QUARTER which is both together, if there is one");
    int limit = side.limit;
    // what is too far from 0 stands in the lower row, just not too far in the upper one
    int[][] pairs = {{limit, 0}, {limit - 1, 1}, {limit / 2, limit / 2}, {limit, -limit}, {1 - limit, -1}, {0, -limit}};
    int[][] none = {{limit, 1}, {1, limit}, {limit, limit}, {limit / 2, limit / 2 + 1}, {-limit, -1}, {-1, -limit},
      {-limit, -limit}, {-limit / 2 - 1, -limit / 2}};
    for (int[] pair : pairs) {
      Shortdecimals x = new Shortdecimals();
      side.quarters(x, 0, pair[0]);
      side.quarters(x, 1, pair[1]);
      side.known(x, 2, 2);
      due("sum of " + pair[0] + " and " + pair[1], side.sum(x, 0, 1, 2), 1);
      due("its quarters", side.count(x, 2), pair[0] + pair[1]);
      due("refusals", x.house(2), 0);
    }
    for (int[] pair : none) {
      Shortdecimals x = new Shortdecimals();
      side.quarters(x, 0, pair[0]);
      side.quarters(x, 1, pair[1]);
      for (int cell = 0; cell < 3; cell++) {
        int into = cell;
        refused("sum of " + pair[0] + " and " + pair[1] + " into " + into, x, y -> side.sum(y, 0, 1, into));
      }
    }
  }

  private static void sumOfZero(Side side) {
    sentence("0 has the SIGN 0, but if both are ZEROS with SIGN 1.");
    Shortdecimals x = new Shortdecimals();
    side.known(x, 1, 1);
    side.quarters(x, 2, 7);
    side.quarters(x, 3, -7);
    int[][] pairs = {{0, 0}, {0, 1}, {1, 0}, {1, 1}, {2, 3}, {3, 2}};
    for (int[] pair : pairs) {
      side.known(x, 4, 2);
      due("sum of cells " + pair[0] + " and " + pair[1], side.sum(x, pair[0], pair[1], 4), 1);
      due("its text", side.text(x, 4), pair[0] == 1 && pair[1] == 1 ? "-0.0" : "0.0");
    }
    due("sum of the ZERO with SIGN and itself, into itself", side.sum(x, 1, 1, 1), 0);
    due("its text", side.text(x, 1), "-0.0");
  }

  private static void order(Side side) {
    sentence("ORDER: ENDLESS with SIGN 1, those below 0, the ZERO with SIGN 1, the ZERO without, those above 0, ENDLESS.");
    for (int one = 0; one < 12; one++) {
      for (int other = 0; other < 12; other++) {
        Shortdecimals x = new Shortdecimals();
        putOfOrder(side, x, 0, one);
        putOfOrder(side, x, 1, other);
        due("order of " + side.texts(x, 0, 1), side.order(x, 0, 1), Integer.compare(one, other));
        due("the same by order", side.same(x, 0, 1, 2), one == other);
        due("the same by digits", side.same(x, 0, 1, 0), one == other);
        due("the same by texts", side.same(x, 0, 1, 1), one == other);
      }
    }
  }

  /** Twelve numbers in their ORDER. */
  private static void putOfOrder(Side side, Shortdecimals x, int cell, int place) {
    int fromZero = place < 6 ? 5 - place : place - 6;
    int[] known = {0, 5, -1, -1, 4, 2};
    if (fromZero == 2) {
      side.ten(x, cell, -side.tenLimit);
    } else if (fromZero == 3) {
      side.quarters(x, cell, side.limit);
    } else {
      side.known(x, cell, known[fromZero]);
    }
    if (place < 6) {
      side.minus(x, cell);
    }
  }

  /** As they stand by the ORDER of TEXTS. */
  private static final String[] ORDERED = {"-0.0", "-1.0", "-1.0E7", "-10.0", "-2.0", "-Infinity", "0.0", "0.001", "0.25", "1.0",
    "1.0E-4", "1.0E7", "1.25", "10.0", "100.0", "2.0", "9.0", "Infinity"};

  private static void putText(Side side, Shortdecimals x, int cell, int place) {
    int[][] parts = {{0, 0}, {1, 0}, {10000, 3}, {10, 0}, {2, 0}, null, {0, 0}, {1, -3}, {25, -2}, {1, 0}, {1, -4}, {10000, 3},
      {125, -2}, {10, 0}, {100, 0}, {2, 0}, {9, 0}, null};
    if (parts[place] == null) {
      side.known(x, cell, 2);
    } else {
      side.made(x, cell, parts[place][0], parts[place][1]);
    }
    if (place < 6) {
      side.minus(x, cell);
    }
  }

  private static void orderOfTexts(Side side) {
    sentence("ORDER of TEXTS: by the first sign that is unlike, the one whose code is less ahead; a beginning ahead of the longer"
        + " one.");
    for (int one = 0; one < ORDERED.length; one++) {
      for (int other = 0; other < ORDERED.length; other++) {
        Shortdecimals x = new Shortdecimals();
        putText(side, x, 0, one);
        putText(side, x, 1, other);
        due("texts", side.texts(x, 0, 1), ORDERED[one] + " " + ORDERED[other]);
        due("order of texts of " + side.texts(x, 0, 1), side.textOrder(x, 0, 1), Integer.compare(one, other));
      }
    }
  }

  private static void orderOfTextsOfBothKinds() {
    sentence("a beginning ahead of the longer one.");
    for (int one = 0; one < ORDERED.length; one++) {
      for (int other = 0; other < ORDERED.length; other++) {
        Shortdecimals x = new Shortdecimals();
        putText(Side.WIDE, x, 0, one);
        putText(Side.NARROW, x, 7, other);
        due("order of texts of " + x.both(0, 7, true), x.textOrder(0, 7), Integer.compare(one, other));
        due("alike are " + x.both(0, 7, true), x.areAlike(0, 7), one == other);
      }
    }
  }
}
