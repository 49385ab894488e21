import java.util.Arrays;

/**
 * Each promise by itself: ordinary inputs, the edges that the document names, and wrong inputs. A promise of the narrow
 * kind has the number of that of the wide kind and 24.
 */
public final class PromisesTest extends Checks {
  private static final boolean[] isChecked = new boolean[PROMISES + 1];

  private static void due(int promise, String call, Object got, Object want) {
    isChecked[promise] = true;
    due("promise " + promise + ": " + call, got, want);
  }

  private static void noCell(int promise, String name, Call call) {
    isChecked[promise] = true;
    noCell("promise " + promise + ": " + name, call);
  }

  private static void illegal(int promise, String name, Call call) {
    isChecked[promise] = true;
    illegal("promise " + promise + ": " + name, call);
  }

  public static void main(String[] args) {
    newObject();
    for (Side side : Side.values()) {
      quarters(side);
      made(side);
      ten(side);
      known(side);
      minus(side);
      copy(side);
      swap(side);
      sum(side);
      sumAtTheEdges(side);
      text(side);
      lengthSignPoint(side);
      powerDigitsForm(side);
      same(side);
      orders(side);
      ordersOfTexts(side);
      like(side);
      hash(side);
      texts(side);
      count(side);
      wrongCells(side);
      wrongPairsOfCells(side);
    }
    bits();
    narrowed();
    widened();
    betweenKinds();
    house();
    sound();
    digest();
    for (int promise = 1; promise <= PROMISES; promise++) {
      due("is promise " + promise + " checked", isChecked[promise], true);
    }
    end();
  }

  // ---- the promises

  private static void newObject() {
    Shortdecimals x = new Shortdecimals();
    String zeros = "0.0 0.0 0.0 0.0 0.0 0.0 0.0 0.0";
    due(1, "wideTexts", x.wideTexts(0, 7), zeros);
    due(1, "narrowTexts", x.narrowTexts(0, 7), zeros);
    for (int cell = 0; cell < 8; cell++) {
      due(1, "bits", Side.WIDE.bits(x, cell) + Side.NARROW.bits(x, cell), "000000000000000000000000");
      due(1, "forms", x.wideForm(cell) + x.narrowForm(cell), 0);
    }
    due(1, "house", x.house(0) + x.house(1) + x.house(2) + x.house(3), 0);
    Shortdecimals other = new Shortdecimals();
    x.wideQuarters(0, 1);
    x.narrowQuarters(0, 1);
    x.knock();
    due(1, "another object", other.digest(), new Shortdecimals().digest());
  }

  private static void quarters(Side side) {
    int p = 2 + side.more;
    Shortdecimals x = new Shortdecimals();
    int[] counts = {1, -1, 2, 3, 4, -7, 5, 399999, -400000, 400000};
    String[] told = {"0.25", "-0.25", "0.5", "0.75", "1.0", "-1.75", "1.25", "99999.75", "-100000.0", "100000.0"};
    for (int i = 0; i < counts.length; i++) {
      due(p, "quarters " + counts[i], side.quarters(x, 7, counts[i]), 1);
      due(p, "text of quarters " + counts[i], side.text(x, 7), told[i]);
      due(p, "quarters again " + counts[i], side.quarters(x, 7, counts[i]), 0);
    }
    due(p, "other cells", side.texts(x, 0, 6), "0.0 0.0 0.0 0.0 0.0 0.0 0.0");
    due(p, "the limit", side.quarters(x, 0, side.limit), 1);
    due(p, "text of the limit", side.text(x, 0), side.of("2.5E8", "100000.0"));
    due(p, "the limit below", side.quarters(x, 0, -side.limit), 1);
    due(p, "text of the limit below", side.text(x, 0), side.of("-2.5E8", "-100000.0"));
    due(p, "0", side.quarters(x, 0, 0), 1);
    due(p, "bits of 0", side.bits(x, 0), side.of("0000000000000000", "00000000"));
    due(p, "0 again", side.quarters(x, 0, 0), 0);
    side.known(x, 0, 1);
    due(p, "0 instead of the zero with sign", side.quarters(x, 0, 0), 1);
    due(p, "bits of 0 then", side.bits(x, 0), side.of("0000000000000000", "00000000"));
    side.quarters(x, 0, -7);
    due(p, "bits of -7", side.bits(x, 0), side.of("bffc000000000000", "bfe00000"));
    for (int quarters : new int[] {side.limit + 1, -side.limit - 1, Integer.MAX_VALUE, Integer.MIN_VALUE}) {
      illegal(p, "quarters " + quarters, y -> side.quarters(y, 0, quarters));
      noCell(p, "quarters of no cell " + quarters, y -> side.quarters(y, 8, quarters));
    }
  }

  private static void made(Side side) {
    int p = 3 + side.more;
    Shortdecimals x = new Shortdecimals();
    int[][] parts = {{1, -1}, {-1, -3}, {1, -4}, {123, -2}, {-5, -1}, {7, 0}, {7, 3}, {-999999, 1}, {999999, 2}, {10, -6}};
    String[] told = {"0.1", "-0.001", "1.0E-4", "1.23", "-0.5", "7.0", "7000.0", "-9999990.0", "9.99999E7", "1.0E-5"};
    for (int i = 0; i < parts.length; i++) {
      String name = " " + parts[i][0] + " " + parts[i][1];
      due(p, "made" + name, side.made(x, 3, parts[i][0], parts[i][1]), 1);
      due(p, "text" + name, side.text(x, 3), told[i]);
      due(p, "made again" + name, side.made(x, 3, parts[i][0], parts[i][1]), 0);
    }
    side.made(x, 1, 3, -1);
    due(p, "bits of 0.3", side.bits(x, 1), side.of("3fd3333333333333", "3e99999a"));
    side.made(x, 1, -7, -3);
    due(p, "bits of -0.007", side.bits(x, 1), side.of("bf7cac083126e979", "bbe56042"));
    due(p, "the same by other parts", side.made(x, 1, -70, -4), 0);
    due(p, "greatest", side.made(x, 0, side.madeLimit, side.madeHighest), 1);
    due(p, "greatest text", side.text(x, 0), side.of("9.99999999E14", "9.99999E8"));
    due(p, "greatest bits", side.bits(x, 0), side.of("430c6bf525b9ee00", "4e6e6b18"));
    due(p, "least", side.made(x, 0, -side.madeLimit, side.madeLowest), 1);
    due(p, "least text", side.text(x, 0), side.of("-0.999999999", "-0.999999"));
    due(p, "small", side.made(x, 0, 1, side.madeLowest), 1);
    due(p, "small text", side.text(x, 0), side.of("1.0E-9", "1.0E-6"));
    side.made(x, 0, -1, 0);
    due(p, "0", side.made(x, 0, 0, side.madeLowest), 1);
    due(p, "bits of 0", side.bits(x, 0), side.of("0000000000000000", "00000000"));
    side.known(x, 0, 1);
    due(p, "0 instead of the zero with sign", side.made(x, 0, 0, 2), 1);
    for (int n : new int[] {side.madeLimit + 1, -side.madeLimit - 1, Integer.MAX_VALUE, Integer.MIN_VALUE}) {
      illegal(p, "made " + n, y -> side.made(y, 0, n, 0));
    }
    for (int k : new int[] {side.madeLowest - 1, side.madeHighest + 1, Integer.MAX_VALUE, Integer.MIN_VALUE}) {
      illegal(p, "made with k " + k, y -> side.made(y, 0, 1, k));
      illegal(p, "0 made with k " + k, y -> side.made(y, 0, 0, k));
      noCell(p, "made in no cell with k " + k, y -> side.made(y, -1, 1, k));
    }
  }

  private static void ten(Side side) {
    int p = 4 + side.more;
    Shortdecimals x = new Shortdecimals();
    for (int k = -side.tenLimit; k <= side.tenLimit; k++) {
      due(p, "ten " + k, side.ten(x, 0, k), 1);
      String told = k >= 0 && k < 7 ? "1" + "0".repeat(k) + ".0" : k < 0 && k > -4 ? "0." + "0".repeat(-1 - k) + "1" : "1.0E" + k;
      due(p, "text of ten " + k, side.text(x, 0), told);
      due(p, "ten again " + k, side.ten(x, 0, k), 0);
    }
    due(p, "bits of the greatest", side.bits(x, 0), side.of("4480f0cf064dd592", "501502f9"));
    side.ten(x, 0, -side.tenLimit);
    due(p, "bits of the least", side.bits(x, 0), side.of("3b5e392010175ee6", "2edbe6ff"));
    side.quarters(x, 0, 4);
    due(p, "ten 0 is four quarters", side.ten(x, 0, 0), 0);
    for (int k : new int[] {side.tenLimit + 1, -side.tenLimit - 1, Integer.MAX_VALUE, Integer.MIN_VALUE}) {
      illegal(p, "ten " + k, y -> side.ten(y, 0, k));
      noCell(p, "ten of no cell " + k, y -> side.ten(y, 8, k));
    }
  }

  private static void known(Side side) {
    int p = 5 + side.more;
    String[] told = {"0.0", "-0.0", "Infinity", "-Infinity", side.of("1.7976931348623157E308", "3.4028235E38"),
      side.of("4.9E-324", "1.4E-45")};
    String[] wide = {"0000000000000000", "8000000000000000", "7ff0000000000000", "fff0000000000000", "7fefffffffffffff",
      "0000000000000001"};
    String[] narrow = {"00000000", "80000000", "7f800000", "ff800000", "7f7fffff", "00000001"};
    Shortdecimals x = new Shortdecimals();
    side.quarters(x, 2, 1);
    for (int which = 0; which < 6; which++) {
      due(p, "known " + which, side.known(x, 2, which), 1);
      due(p, "known again " + which, side.known(x, 2, which), 0);
      due(p, "text of known " + which, side.text(x, 2), told[which]);
      due(p, "bits of known " + which, side.bits(x, 2), side.of(wide, narrow)[which]);
    }
    for (int which : new int[] {-1, 6, Integer.MAX_VALUE, Integer.MIN_VALUE}) {
      illegal(p, "known " + which, y -> side.known(y, 0, which));
      noCell(p, "known of no cell " + which, y -> side.known(y, 8, which));
    }
  }

  private static void minus(Side side) {
    int p = 6 + side.more;
    Shortdecimals x = filled();
    String[] turned = {"-1.25", "0.0123", "-1.0E9", "Infinity", side.of("-1.7976931348623157E308", "-3.4028235E38"),
      side.of("-4.9E-324", "-1.4E-45"), "0.0", "-0.0"};
    for (int cell = 0; cell < 8; cell++) {
      String ahead = side.text(x, cell);
      due(p, "minus of " + ahead, side.minus(x, cell), turned[cell].startsWith("-") ? 1 : 0);
      due(p, "text then", side.text(x, cell), turned[cell]);
      due(p, "minus back of " + ahead, side.minus(x, cell), ahead.startsWith("-") ? 1 : 0);
      due(p, "text back", side.text(x, cell), ahead);
    }
    side.minus(x, 0);
    due(p, "bits", side.bits(x, 0), side.of("bff4000000000000", "bfa00000"));
    due(p, "acts", side.acts(x), 7 + 17);
  }

  private static void copy(Side side) {
    int p = 7 + side.more;
    Shortdecimals x = filled();
    due(p, "copy", side.copy(x, 1, 0), 1);
    due(p, "texts", side.text(x, 0) + side.text(x, 1), "-0.0123-0.0123");
    due(p, "copy again", side.copy(x, 1, 0), 0);
    due(p, "copy to itself", side.copy(x, 3, 3), 0);
    due(p, "copy of a zero onto one with sign", side.copy(x, 7, 6), 1);
    due(p, "text of that", side.text(x, 6), "0.0");
    due(p, "copy of an endless one", side.copy(x, 3, 1), 1);
    due(p, "the first stays", side.text(x, 3), "-Infinity");
    due(p, "form", side.form(x, 1), 2);
    side.quarters(x, 3, 9);
    due(p, "the copy stays", side.text(x, 1) + side.form(x, 1) + side.count(x, 1), "-Infinity2" + NO_QUARTER);
    due(p, "copy of a split one", side.copy(x, 2, 0), 1);
    due(p, "its power", side.power(x, 0), 9);
    due(p, "its bits", side.bits(x, 0), side.bits(x, 2));
    due(p, "acts", side.acts(x), 7 + 7);
  }

  private static void swap(Side side) {
    int p = 8 + side.more;
    Shortdecimals x = filled();
    due(p, "swap", side.swap(x, 0, 3), 1);
    due(p, "text of the one", side.text(x, 0) + side.form(x, 0) + side.count(x, 0), "-Infinity2" + NO_QUARTER);
    due(p, "text of the other", side.text(x, 3) + side.form(x, 3) + side.count(x, 3), "1.2505");
    due(p, "swap with itself", side.swap(x, 3, 3), 0);
    due(p, "text then", side.text(x, 3), "1.25");
    due(p, "swap of both zeros", side.swap(x, 6, 7), 1);
    due(p, "texts then", side.texts(x, 6, 7), "0.0 -0.0");
    side.copy(x, 0, 1);
    due(p, "swap of same ones", side.swap(x, 0, 1), 0);
    side.quarters(x, 0, 1);
    due(p, "only one changes behind that", side.texts(x, 0, 1), "0.25 -Infinity");
    due(p, "acts", side.acts(x), 7 + 6);
  }

  private static void sum(Side side) {
    int p = 9 + side.more;
    Shortdecimals x = new Shortdecimals();
    side.quarters(x, 0, 3);
    side.quarters(x, 1, -10);
    due(p, "sum", side.sum(x, 0, 1, 2), 1);
    due(p, "text", side.text(x, 2), "-1.75");
    due(p, "sum again", side.sum(x, 1, 0, 2), 0);
    due(p, "the parts stay", side.texts(x, 0, 1), "0.75 -2.5");
    due(p, "sum with itself", side.sum(x, 0, 0, 0), 1);
    due(p, "text then", side.text(x, 0), "1.5");
    side.quarters(x, 3, 10);
    due(p, "sum of 0", side.sum(x, 1, 3, 4), 0);
    due(p, "bits of 0", side.bits(x, 4), side.of("0000000000000000", "00000000"));
    due(p, "sum of 0 the other way", side.sum(x, 3, 1, 3), 1);
    due(p, "its text", side.text(x, 3), "0.0");
    side.known(x, 5, 1);
    due(p, "both zeros with sign", side.sum(x, 5, 5, 6), 1);
    due(p, "their text", side.text(x, 6), "-0.0");
    due(p, "one zero with sign", side.sum(x, 5, 4, 6), 1);
    due(p, "their text", side.text(x, 6), "0.0");
    due(p, "the other zero with sign", side.sum(x, 4, 5, 5), 1);
    due(p, "their text", side.text(x, 5), "0.0");
    side.known(x, 5, 1);
    due(p, "a zero with sign and a quarter", side.sum(x, 5, 1, 7), 1);
    due(p, "its text", side.text(x, 7), "-2.5");
    due(p, "a quarter and a zero with sign", side.sum(x, 0, 5, 7), 1);
    due(p, "its text", side.text(x, 7), "1.5");
    side.made(x, 0, 15, -1);
    side.ten(x, 1, 1);
    due(p, "made ones are quarters too", side.sum(x, 0, 1, 2), 1);
    due(p, "text of these", side.text(x, 2), "11.5");
    due(p, "acts", side.acts(x), 7 + 11);
    due(p, "refusals", x.house(2), 0);
  }

  private static void sumAtTheEdges(Side side) {
    int p = 9 + side.more;
    Shortdecimals x = new Shortdecimals();
    side.quarters(x, 0, side.limit);
    side.quarters(x, 1, 1);
    side.quarters(x, 2, -1);
    side.quarters(x, 3, -side.limit);
    due(p, "above the limit", side.sum(x, 0, 1, 4), REFUSED);
    due(p, "far above the limit", side.sum(x, 0, 0, 0), REFUSED);
    due(p, "below the limit", side.sum(x, 2, 3, 3), REFUSED);
    due(p, "nothing changed", side.text(x, 0) + side.text(x, 3) + side.text(x, 4), side.of("2.5E8-2.5E80.0", "100000.0-100000.00.0"));
    due(p, "just below the limit", side.sum(x, 0, 2, 4), 1);
    due(p, "its text", side.text(x, 4), side.of("2.4999999975E8", "99999.75"));
    due(p, "just the limit", side.sum(x, 4, 1, 4), 1);
    due(p, "same as the limit", side.same(x, 4, 0, 0), true);
    due(p, "both limits", side.sum(x, 0, 3, 3), 1);
    due(p, "their text", side.text(x, 3), "0.0");
    int[] others = {2, 3, 4, 5};
    for (int which : others) {
      side.known(x, 5, which);
      due(p, "sum with known " + which, side.sum(x, 5, 1, 6), REFUSED);
      due(p, "sum the other way with known " + which, side.sum(x, 1, 5, 1), REFUSED);
    }
    side.made(x, 5, 1, -1);
    due(p, "sum with 0.1", side.sum(x, 5, 5, 5), REFUSED);
    due(p, "text stays", side.text(x, 5), "0.1");
    side.ten(x, 5, side.tenLimit);
    due(p, "sum with a great one", side.sum(x, 5, 1, 5), REFUSED);
    due(p, "refusals", x.house(2), 13);
    due(p, "acts", side.acts(x), 4 + 3 + 4 + 2);
    noCell(p, "no cell goes ahead of REFUSED", y -> side.sum(y, 3, 3, 8));
  }

  private static void text(Side side) {
    int p = 10 + side.more;
    Shortdecimals x = filled();
    String[] told = {"1.25", "-0.0123", "1.0E9", "-Infinity", side.of("1.7976931348623157E308", "3.4028235E38"),
      side.of("4.9E-324", "1.4E-45"), "-0.0", "0.0"};
    for (int cell = 0; cell < 8; cell++) {
      for (int way = 0; way < 5; way++) {
        due(p, "text of " + cell + " by " + way, side.text(x, cell, way), told[cell]);
      }
    }
    int[][] parts = {{999999, 1}, {1000, 4}, {999999, -9}, {1, -3}, {999, -6}, {123450, -5}, {100200, -3}, {-120000, 2}};
    String[] toldOfParts = {"9999990.0", "1.0E7", "9.99999E-4", "0.001", "9.99E-4", "1.2345", "100.2", "-1.2E7"};
    for (int i = 0; i < parts.length; i++) {
      boolean isPossible = parts[i][1] >= side.madeLowest && parts[i][1] <= side.madeHighest;
      if (isPossible) {
        side.made(x, 0, parts[i][0], parts[i][1]);
        due(p, "text of made " + i, side.text(x, 0, 1), toldOfParts[i]);
      }
    }
    for (int way : new int[] {-1, 5, Integer.MAX_VALUE, Integer.MIN_VALUE}) {
      illegal(p, "way " + way, y -> side.text(y, 0, way));
      noCell(p, "way of no cell " + way, y -> side.text(y, 8, way));
    }
  }

  private static void lengthSignPoint(Side side) {
    Shortdecimals x = filled();
    int[] lengths = {4, 7, 5, 9, side.of(22, 12), side.of(8, 7), 4, 3};
    int[] points = {1, 2, 1, NONE, 1, 1, 2, 1};
    for (int cell = 0; cell < 8; cell++) {
      String told = side.text(x, cell);
      due(11 + side.more, "length of " + told, side.length(x, cell), lengths[cell]);
      due(13 + side.more, "point of " + told, side.point(x, cell), points[cell]);
      for (int place = -2; place < 26; place++) {
        int code = place < 0 || place >= told.length() ? NONE : told.charAt(place);
        due(12 + side.more, "sign " + place + " of " + told, side.sign(x, cell, place), code);
      }
      due(12 + side.more, "last sign", side.sign(x, cell, Integer.MAX_VALUE), NONE);
      due(12 + side.more, "first sign", side.sign(x, cell, Integer.MIN_VALUE), NONE);
    }
    due(12 + side.more, "'-', '0', '.', '1', 'E', 'I'", Arrays.toString(new int[] {side.sign(x, 1, 0), side.sign(x, 1, 1),
      side.sign(x, 1, 2), side.sign(x, 1, 4), side.sign(x, 2, 3), side.sign(x, 3, 1)}), "[45, 48, 46, 49, 69, 73]");
    side.quarters(x, 0, -400000);
    due(13 + side.more, "point of -100000.0", side.point(x, 0), 7);
  }

  private static void powerDigitsForm(Side side) {
    Shortdecimals x = filled();
    int[] powers = {-9999, -9999, 9, -9999, side.of(308, 38), side.of(-324, -45), -9999, -9999};
    int[] digits = {3, 5, 2, 0, side.of(17, 8), 2, 2, 2};
    int[] forms = {0, 0, 1, 2, 1, 1, 0, 0};
    for (int cell = 0; cell < 8; cell++) {
      String told = side.text(x, cell);
      due(14 + side.more, "power of " + told, side.power(x, cell), powers[cell]);
      due(15 + side.more, "digits of " + told, side.digits(x, cell), digits[cell]);
      due(16 + side.more, "form of " + told, side.form(x, cell), forms[cell]);
      side.minus(x, cell);
      due(14 + side.more, "power of the other sign", side.power(x, cell), powers[cell]);
      due(15 + side.more, "digits of the other sign", side.digits(x, cell), digits[cell]);
      due(16 + side.more, "form of the other sign", side.form(x, cell), forms[cell]);
    }
    int[] tens = {-4, -3, 6, 7};
    for (int i = 0; i < tens.length; i++) {
      boolean isPlain = i == 1 || i == 2;
      side.ten(x, 0, tens[i]);
      due(16 + side.more, "form of ten " + tens[i], side.form(x, 0), isPlain ? 0 : 1);
      due(14 + side.more, "power of ten " + tens[i], side.power(x, 0), isPlain ? -9999 : tens[i]);
      due(15 + side.more, "digits of ten " + tens[i], side.digits(x, 0), new int[] {2, 4, 8, 2}[i]);
    }
  }

  private static void same(Side side) {
    int p = 17 + side.more;
    Shortdecimals x = filled();
    for (int how = 0; how < 3; how++) {
      for (int one = 0; one < 8; one++) {
        for (int other = 0; other < 8; other++) {
          due(p, "same " + one + " " + other + " " + how, side.same(x, one, other, how), one == other);
        }
      }
    }
    side.made(x, 0, 20, -1);
    side.quarters(x, 1, 8);
    for (int how = 0; how < 3; how++) {
      due(p, "2.0 and 2.0", side.same(x, 0, 1, how), true);
    }
    side.minus(x, 1);
    for (int how = 0; how < 3; how++) {
      due(p, "2.0 and -2.0", side.same(x, 0, 1, how), false);
    }
    for (int how : new int[] {-1, 3, Integer.MAX_VALUE, Integer.MIN_VALUE}) {
      illegal(p, "how " + how, y -> side.same(y, 0, 1, how));
      noCell(p, "how of no cell " + how, y -> side.same(y, 0, 8, how));
      noCell(p, "how of no other cell " + how, y -> side.same(y, 8, 0, how));
    }
  }

  /** Cells 0 to 7 in their order, which is not that of their texts. */
  private static Shortdecimals ordered(Side side) {
    Shortdecimals x = new Shortdecimals();
    side.known(x, 0, 3);
    side.ten(x, 1, 10);
    side.minus(x, 1);
    side.quarters(x, 2, -8);
    side.known(x, 3, 1);
    side.known(x, 4, 0);
    side.known(x, 5, 5);
    side.ten(x, 6, 1);
    side.known(x, 7, 2);
    return x;
  }

  private static void orders(Side side) {
    int p = 18 + side.more;
    Shortdecimals x = ordered(side);
    for (int one = 0; one < 8; one++) {
      for (int other = 0; other < 8; other++) {
        due(p, "order " + one + " " + other, side.order(x, one, other), Integer.compare(one, other));
      }
    }
    side.known(x, 6, 4);
    due(p, "the greatest", side.order(x, 6, 7) + side.order(x, 5, 6), -2);
    side.minus(x, 6);
    due(p, "the greatest below 0", side.order(x, 6, 0) - side.order(x, 6, 1), 2);
    side.copy(x, 3, 1);
    due(p, "zeros with sign", side.order(x, 3, 1), 0);
  }

  private static void ordersOfTexts(Side side) {
    int p = 19 + side.more;
    Shortdecimals x = ordered(side);
    String[] told = {"-Infinity", "-1.0E10", "-2.0", "-0.0", "0.0", side.of("4.9E-324", "1.4E-45"), "10.0", "Infinity"};
    for (int one = 0; one < 8; one++) {
      for (int other = 0; other < 8; other++) {
        due(p, "order of " + told[one] + " and " + told[other], side.textOrder(x, one, other),
            Integer.signum(told[one].compareTo(told[other])));
      }
    }
    side.quarters(x, 0, 4);
    side.made(x, 1, 100001, -5);
    side.ten(x, 2, 7);
    due(p, "1.0 ahead of 1.00001", side.textOrder(x, 0, 1), -1);
    due(p, "1.00001 behind 1.0", side.textOrder(x, 1, 0), 1);
    due(p, "1.0 ahead of 1.0E7", side.textOrder(x, 0, 2), -1);
    due(p, "1.0E7 behind 1.00001", side.textOrder(x, 2, 1), 1);
    due(p, "10.0 behind 1.0", side.textOrder(x, 6, 0), 1);
  }

  private static void like(Side side) {
    int p = 20 + side.more;
    Shortdecimals x = filled();
    for (int cell = 0; cell < 8; cell++) {
      due(p, "like itself", side.like(x, cell, cell), true);
      due(p, "like the next", side.like(x, cell, (cell + 1) % 8), cell == 6);
    }
    due(p, "both zeros", side.like(x, 7, 6), true);
    for (int cell = 0; cell < 6; cell++) {
      side.copy(x, cell, 7);
      side.minus(x, 7);
      due(p, "like the other sign", side.like(x, cell, 7), true);
      due(p, "the other sign like this", side.like(x, 7, cell), true);
    }
    side.quarters(x, 0, 4);
    side.ten(x, 1, 7);
    side.ten(x, 2, 1);
    due(p, "1.0 and 1.0E7", side.like(x, 0, 1), false);
    due(p, "1.0 and 10.0", side.like(x, 0, 2), false);
    side.quarters(x, 1, 8);
    due(p, "1.0 and 2.0", side.like(x, 0, 1), false);
  }

  private static void hash(Side side) {
    int p = 21 + side.more;
    Shortdecimals x = filled();
    int[] hashes = {1505568, -1593847443, 46671239, 506745205, side.of(2133987952, -372395085),
      side.of(4296334, 1905071936), 1388197, 47602};
    for (int cell = 0; cell < 8; cell++) {
      due(p, "hash of " + side.text(x, cell), side.hash(x, cell), hashes[cell]);
    }
  }

  private static void texts(Side side) {
    int p = 22 + side.more;
    Shortdecimals x = filled();
    due(p, "all", side.texts(x, 0, 7), "1.25 -0.0123 1.0E9 -Infinity "
        + side.of("1.7976931348623157E308 4.9E-324", "3.4028235E38 1.4E-45") + " -0.0 0.0");
    due(p, "some", side.texts(x, 1, 3), "-0.0123 1.0E9 -Infinity");
    due(p, "one", side.texts(x, 7, 7), "0.0");
    due(p, "none", side.texts(x, 1, 0), "");
    due(p, "none from the last", side.texts(x, 7, 0), "");
  }

  private static void count(Side side) {
    int p = 23 + side.more;
    Shortdecimals x = filled();
    int[] counts = {5, NO_QUARTER, NO_QUARTER, NO_QUARTER, NO_QUARTER, NO_QUARTER, 0, 0};
    for (int cell = 0; cell < 8; cell++) {
      due(p, "count of " + side.text(x, cell), side.count(x, cell), counts[cell]);
    }
    side.minus(x, 0);
    due(p, "count of -1.25", side.count(x, 0), -5);
    for (int quarters : new int[] {1, 2, 3, -1, 399999, side.limit, -side.limit, side.limit - 1}) {
      side.quarters(x, 0, quarters);
      due(p, "count", side.count(x, 0), quarters);
    }
    side.made(x, 0, 125, -3);
    due(p, "count of 0.125", side.count(x, 0), NO_QUARTER);
    side.made(x, 0, 1125, -3);
    due(p, "count of 1.125", side.count(x, 0), NO_QUARTER);
    side.made(x, 0, 75, -2);
    due(p, "count of 0.75", side.count(x, 0), 3);
    side.ten(x, 0, 5);
    due(p, "count of 10^5", side.count(x, 0), 400000);
    side.made(x, 0, 100001, 0);
    due(p, "count of 100001", side.count(x, 0), side.of(400004, NO_QUARTER));
    side.ten(x, 0, 8);
    due(p, "count of 10^8", side.count(x, 0), side.of(400000000, NO_QUARTER));
    side.made(x, 0, 251, side.of(6, 3));
    due(p, "count of 251 and zeros", side.count(x, 0), side.of(NO_QUARTER, NO_QUARTER));
    side.made(x, 0, 250000, 3);
    due(p, "count of 2.5E8", side.count(x, 0), side.of(1000000000, NO_QUARTER));
  }

  private static void wrongCells(Side side) {
    for (int cell : NO_CELLS) {
      String name = "no cell " + cell;
      noCell(2 + side.more, name, x -> side.quarters(x, cell, 1));
      noCell(3 + side.more, name, x -> side.made(x, cell, 1, 1));
      noCell(4 + side.more, name, x -> side.ten(x, cell, 1));
      noCell(5 + side.more, name, x -> side.known(x, cell, 1));
      noCell(6 + side.more, name, x -> side.minus(x, cell));
      noCell(10 + side.more, name, x -> side.text(x, cell, 1));
      noCell(11 + side.more, name, x -> side.length(x, cell));
      noCell(12 + side.more, name, x -> side.sign(x, cell, 0));
      noCell(13 + side.more, name, x -> side.point(x, cell));
      noCell(14 + side.more, name, x -> side.power(x, cell));
      noCell(15 + side.more, name, x -> side.digits(x, cell));
      noCell(16 + side.more, name, x -> side.form(x, cell));
      noCell(21 + side.more, name, x -> side.hash(x, cell));
      noCell(23 + side.more, name, x -> side.count(x, cell));
    }
  }

  private static void wrongPairsOfCells(Side side) {
    for (int cell : NO_CELLS) {
      for (int[] pair : new int[][] {{cell, 0}, {0, cell}, {cell, cell}}) {
        int a = pair[0];
        int b = pair[1];
        String name = "no cells " + a + " " + b;
        noCell(7 + side.more, name, x -> side.copy(x, a, b));
        noCell(8 + side.more, name, x -> side.swap(x, a, b));
        noCell(9 + side.more, name, x -> side.sum(x, a, b, 0));
        noCell(9 + side.more, name, x -> side.sum(x, 0, a, b));
        noCell(9 + side.more, name, x -> side.sum(x, b, 0, a));
        noCell(17 + side.more, name, x -> side.same(x, a, b, 0));
        noCell(18 + side.more, name, x -> side.order(x, a, b));
        noCell(19 + side.more, name, x -> side.textOrder(x, a, b));
        noCell(20 + side.more, name, x -> side.like(x, a, b));
        noCell(22 + side.more, name, x -> side.texts(x, a, b));
        int between = side.isWide ? 49 : 50;
        noCell(between, name, x -> side.isWide ? x.narrowed(a, b) : x.widened(a, b));
        noCell(51, name, x -> x.areAlike(a, b));
        noCell(52, name, x -> x.textOrder(a, b));
        noCell(53, name, x -> x.both(a, b, side.isWide));
      }
    }
  }

  private static void bits() {
    Shortdecimals x = new Shortdecimals();
    x.wideMade(3, -1, -1);
    due(24, "upper of -0.1", x.upper(3), 0xbfb99999);
    due(25, "lower of -0.1", x.lower(3), 0x9999999a);
    x.wideMade(3, 1, -3);
    due(24, "upper of 0.001", x.upper(3), 0x3f50624d);
    due(25, "lower of 0.001", x.lower(3), 0xd2f1a9fc);
    x.narrowMade(3, -1, -1);
    due(48, "digits of -0.1", x.digits(3), 0xbdcccccd);
    x.narrowMade(3, 1, -3);
    due(48, "digits of 0.001", x.digits(3), 0x3a83126f);
    for (int cell : NO_CELLS) {
      noCell(24, "no cell " + cell, y -> y.upper(cell));
      noCell(25, "no cell " + cell, y -> y.lower(cell));
      noCell(48, "no cell " + cell, y -> y.digits(cell));
    }
  }

  private static void narrowed() {
    Shortdecimals x = new Shortdecimals();
    int[] counts = {1, -3, 400000, -400000, 399999};
    String[] told = {"0.25", "-0.75", "100000.0", "-100000.0", "99999.75"};
    for (int i = 0; i < counts.length; i++) {
      x.wideQuarters(0, counts[i]);
      due(49, "narrowed " + told[i], x.narrowed(0, 5), 1);
      due(49, "narrowed again " + told[i], x.narrowed(0, 5), 0);
      due(49, "text " + told[i], x.narrowText(5, 0) + x.wideText(0, 0), told[i] + told[i]);
    }
    String[] known = {"0.0", "-0.0", "Infinity", "-Infinity"};
    for (int which = 0; which < 4; which++) {
      x.wideKnown(0, which);
      due(49, "narrowed known " + which, x.narrowed(0, 5), 1);
      due(49, "text of known " + which, x.narrowText(5, 0), known[which]);
      due(49, "form of known " + which, x.narrowForm(5), which / 2 * 2);
    }
    due(49, "acts", x.house(0) + " " + x.house(1) + " " + x.house(2), "9 14 0");
    int[] tooFar = {400001, -400001, 1000000000, -1000000000};
    for (int quarters : tooFar) {
      x.wideQuarters(0, quarters);
      due(49, "narrowed " + quarters, x.narrowed(0, 5), REFUSED);
    }
    x.wideKnown(0, 4);
    due(49, "narrowed greatest", x.narrowed(0, 5), REFUSED);
    x.wideKnown(0, 5);
    due(49, "narrowed least", x.narrowed(0, 5), REFUSED);
    x.wideMade(0, 1, -1);
    due(49, "narrowed 0.1", x.narrowed(0, 5), REFUSED);
    x.wideMade(0, 125, -3);
    due(49, "narrowed 0.125", x.narrowed(0, 5), REFUSED);
    x.wideTen(0, 22);
    due(49, "narrowed 10^22", x.narrowed(0, 5), REFUSED);
    due(49, "nothing changed", x.narrowText(5, 0), "-Infinity");
    due(49, "acts then", x.house(0) + " " + x.house(1) + " " + x.house(2), "18 14 9");
    noCell(49, "no cell ahead of REFUSED", y -> y.narrowed(4, 8));
  }

  private static void widened() {
    Shortdecimals x = new Shortdecimals();
    int[] counts = {1, -3, 400000, -400000, 399999};
    String[] told = {"0.25", "-0.75", "100000.0", "-100000.0", "99999.75"};
    for (int i = 0; i < counts.length; i++) {
      x.narrowQuarters(0, counts[i]);
      due(50, "widened " + told[i], x.widened(0, 5), 1);
      due(50, "widened again " + told[i], x.widened(0, 5), 0);
      due(50, "text " + told[i], x.wideText(5, 0) + x.narrowText(0, 0), told[i] + told[i]);
      due(50, "count " + told[i], x.wideCount(5), counts[i]);
    }
    String[] known = {"0.0", "-0.0", "Infinity", "-Infinity"};
    for (int which = 0; which < 4; which++) {
      x.narrowKnown(0, which);
      due(50, "widened known " + which, x.widened(0, 5), 1);
      due(50, "text of known " + which, x.wideText(5, 0), known[which]);
    }
    due(50, "acts", x.house(0) + " " + x.house(1) + " " + x.house(2), "14 9 0");
    x.narrowKnown(0, 4);
    due(50, "widened greatest", x.widened(0, 5), REFUSED);
    x.narrowKnown(0, 5);
    due(50, "widened least", x.widened(0, 5), REFUSED);
    x.narrowMade(0, 1, -1);
    due(50, "widened 0.1", x.widened(0, 5), REFUSED);
    x.narrowMade(0, 100001, 0);
    due(50, "widened 100001", x.widened(0, 5), REFUSED);
    due(50, "nothing changed", x.wideText(5, 0), "-Infinity");
    due(50, "acts then", x.house(0) + " " + x.house(1) + " " + x.house(2), "14 13 4");
    noCell(50, "no cell ahead of REFUSED", y -> y.widened(4, 8));
  }

  private static void betweenKinds() {
    Shortdecimals x = filled();
    String[] wide = x.wideTexts(0, 7).split(" ");
    String[] narrow = x.narrowTexts(0, 7).split(" ");
    for (int a = 0; a < 8; a++) {
      for (int b = 0; b < 8; b++) {
        String name = wide[a] + " and " + narrow[b];
        due(51, "alike " + name, x.areAlike(a, b), a == b && a != 4 && a != 5);
        due(52, "order " + name, x.textOrder(a, b), Integer.signum(wide[a].compareTo(narrow[b])));
        due(53, "both " + name, x.both(a, b, true), wide[a] + " " + narrow[b]);
        due(53, "both the other way " + name, x.both(a, b, false), narrow[b] + " " + wide[a]);
      }
    }
    x.wideMade(0, 1, -1);
    x.narrowMade(0, 1, -1);
    due(51, "0.1 of both", x.areAlike(0, 0), true);
    x.wideMinus(0);
    due(51, "0.1 of both, one with a sign", x.areAlike(0, 0), false);
    due(52, "-0.1 ahead of 0.1", x.textOrder(0, 0), -1);
    x.wideTen(0, 7);
    x.narrowQuarters(0, 4);
    due(52, "1.0E7 behind 1.0", x.textOrder(0, 0), 1);
  }

  private static void house() {
    Shortdecimals x = new Shortdecimals();
    for (int i = 1; i <= 5; i++) {
      due(54, "knock", x.knock(), i);
      due(55, "knocks", x.house(3), i);
    }
    for (Side side : Side.values()) {
      side.quarters(x, 0, 0);
      side.made(x, 0, 0, 0);
      side.ten(x, 0, 0);
      side.known(x, 0, 0);
      side.minus(x, 0);
      side.copy(x, 0, 0);
      side.swap(x, 0, 0);
      side.sum(x, 0, 0, 0);
      due(55, "the first eight", side.acts(x), 8);
      due(55, "only of this kind", side.actsOfOther(x), side.of(0, 8));
      side.text(x, 0);
      side.texts(x, 0, 7);
      side.count(x, 0);
      due(55, "questions are none", side.acts(x), 8);
    }
    x.narrowed(0, 0);
    x.narrowed(0, 0);
    x.widened(0, 0);
    due(55, "between the kinds", x.house(0) + " " + x.house(1), "9 10");
    x.wideKnown(1, 4);
    x.narrowKnown(1, 4);
    x.wideSum(1, 1, 1);
    x.narrowSum(1, 1, 1);
    x.narrowed(1, 1);
    x.widened(1, 1);
    due(55, "refusals", x.house(0) + " " + x.house(1) + " " + x.house(2) + " " + x.house(3), "10 11 4 5");
    for (int what : new int[] {-1, 4, Integer.MAX_VALUE, Integer.MIN_VALUE}) {
      illegal(55, "house " + what, y -> y.house(what));
    }
    due(54, "knock of another object", new Shortdecimals().knock(), 1);
  }

  private static void sound() {
    due(56, "a new object", new Shortdecimals().isSound(), true);
    Shortdecimals x = filled();
    long ahead = x.digest();
    due(56, "a filled one", x.isSound(), true);
    for (Side side : Side.values()) {
      for (int cell = 0; cell < 8; cell++) {
        side.minus(x, cell);
        due(56, "with other signs", x.isSound(), true);
      }
      for (int cell = 0; cell < 8; cell++) {
        side.minus(x, cell);
      }
      for (int k = -side.tenLimit; k <= side.tenLimit; k++) {
        side.ten(x, k & 7, k);
        due(56, "with ten " + k, x.isSound(), true);
      }
    }
    due(56, "it changes nothing", filled().digest(), ahead);
  }

  private static long digestByCalls(Shortdecimals x) {
    long d = 7795;
    for (int what = 0; what < 4; what++) {
      d = d * 31 + x.house(what);
    }
    for (Side side : Side.values()) {
      for (int cell = 0; cell < 8; cell++) {
        d = side.isWide ? (d * 31 + x.upper(cell)) * 31 + x.lower(cell) : d * 31 + x.digits(cell);
        for (int v : new int[] {side.length(x, cell), side.hash(x, cell), side.form(x, cell), side.power(x, cell),
          side.digits(x, cell), side.count(x, cell)}) {
          d = d * 31 + v;
        }
      }
    }
    for (Side side : Side.values()) {
      for (int one = 0; one < 8; one++) {
        for (int other = one + 1; other < 8; other++) {
          d = (d * 31 + side.order(x, one, other)) * 31 + side.textOrder(x, one, other);
        }
      }
    }
    return d * 31 + (x.isSound() ? 1 : 0);
  }

  private static void digest() {
    Shortdecimals x = new Shortdecimals();
    due(57, "a new object", x.digest(), digestByCalls(x));
    due(57, "again", x.digest(), new Shortdecimals().digest());
    Shortdecimals y = filled();
    due(57, "a filled one", y.digest(), digestByCalls(y));
    y.wideSum(3, 3, 3);
    due(57, "with a refusal", y.digest(), digestByCalls(y));
    long ahead = y.digest();
    y.knock();
    due(57, "a knock counts", y.digest() != ahead, true);
    ahead = y.digest();
    y.narrowMinus(7);
    due(57, "a sign counts", y.digest() != ahead, true);
  }
}
