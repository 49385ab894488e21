import java.math.BigInteger;

/**
 * Each row of the promises that tells what is returned or thrown: the row is quoted, and then its edges are checked. A
 * promise of the narrow kind has the number of that of the wide kind and 24.
 */
public final class EdgesOfPromisesTest extends Checks {
  private static final String NO_SUCH_CELL = "Throws `IndexOutOfBoundsException` if there is no such cell";
  private static final String ILLEGAL = "Throws `IllegalArgumentException` if ";

  public static void main(String[] args) {
    noSuchCell();
    for (Side side : Side.values()) {
      ranges(side);
      acts(side);
      texts(side);
      pairs(side);
    }
    bits();
    narrowed();
    widened();
    bothKinds();
    knock();
    house();
    sound();
    digest();
    everyRowWasQuoted();
    end();
  }

  // ---- what is thrown

  private static void noSuchCell() {
    for (Calls.OfCell each : Calls.withOneCell()) {
      sentence(each.promise, NO_SUCH_CELL);
      for (int cell : NO_CELLS) {
        noCell(each.name + " of cell " + cell, x -> each.on.call(x, cell));
      }
      for (int cell : new int[] {0, 7}) {
        due(each.name + " of cell " + cell + " throws", thrownBy(x -> each.on.call(x, cell)), "nothing");
      }
    }
  }

  private static String thrownBy(Call call) {
    try {
      call.on(new Shortdecimals());
      return "nothing";
    } catch (RuntimeException e) {
      return e.getClass().getSimpleName();
    }
  }

  private interface OfInt {
    Object call(Shortdecimals x, int value);
  }

  /** The least and the greatest value are taken; what lies beyond them is not. */
  private static void range(int promise, String row, int least, int greatest, OfInt call) {
    sentence(promise, ILLEGAL + row);
    for (int value : new int[] {least, least + 1, greatest - 1, greatest}) {
      due("promise " + promise + " with " + value + " throws", thrownBy(x -> call.call(x, value)), "nothing");
    }
    for (int value : new int[] {least - 1, greatest + 1, Integer.MIN_VALUE, Integer.MAX_VALUE}) {
      illegal("promise " + promise + " with " + value, x -> call.call(x, value));
    }
  }

  private static void ranges(Side side) {
    int more = side.more;
    range(2 + more, side.of("quarters is not -1000000000 to 1000000000", "quarters is not -400000 to 400000"), -side.limit,
        side.limit, (x, quarters) -> side.quarters(x, 3, quarters));
    String made = side.of("n is not -999999999 to 999999999, or k not -9 to 6", "n is not -999999 to 999999, or k not -6 to 3");
    for (int k : new int[] {side.madeLowest, 0, side.madeHighest}) {
      range(3 + more, made, -side.madeLimit, side.madeLimit, (x, n) -> side.made(x, 3, n, k));
    }
    for (int n : new int[] {-side.madeLimit, -1, 0, 1, side.madeLimit}) {
      range(3 + more, made, side.madeLowest, side.madeHighest, (x, k) -> side.made(x, 3, n, k));
    }
    range(4 + more, side.of("k is not -22 to 22", "k is not -10 to 10"), -side.tenLimit, side.tenLimit,
        (x, k) -> side.ten(x, 3, k));
    range(5 + more, "which is not 0 to 5", 0, 5, (x, which) -> side.known(x, 3, which));
    range(10 + more, "way is not 0 to 4", 0, 4, (x, way) -> side.text(x, 3, way));
    range(17 + more, "how is not 0 to 2", 0, 2, (x, how) -> side.same(x, 3, 4, how));
    range(17 + more, "how is not 0 to 2", 0, 2, (x, how) -> side.same(x, 3, 3, how));
  }

  // ---- acts

  private static void acts(Side side) {
    quarters(side);
    made(side);
    ten(side);
    known(side);
    minus(side);
    copy(side);
    swap(side);
    sum(side);
  }

  private static void quarters(Side side) {
    sentence(2 + side.more, "one becomes so many quarters (0: the ZERO without SIGN).");
    Shortdecimals x = new Shortdecimals();
    sentence(2 + side.more, "Returns 1 or 0.");
    due("0 instead of the ZERO", side.quarters(x, 0, 0), 0);
    side.known(x, 0, 1);
    due("0 instead of the ZERO with SIGN", side.quarters(x, 0, 0), 1);
    due("digits of 0", side.bits(x, 0), side.of("0000000000000000", "00000000"));
    int[] counts = {1, -1, side.limit, -side.limit, side.limit - 1, 1 - side.limit};
    String[] wide = {"3fd0000000000000", "bfd0000000000000", "41adcd6500000000", "c1adcd6500000000", "41adcd64ff800000",
      "c1adcd64ff800000"};
    String[] narrow = {"3e800000", "be800000", "47c35000", "c7c35000", "47c34fe0", "c7c34fe0"};
    for (int i = 0; i < counts.length; i++) {
      due("quarters " + counts[i], side.quarters(x, 0, counts[i]), 1);
      due("quarters again", side.quarters(x, 0, counts[i]), 0);
      due("digits", side.bits(x, 0), side.of(wide, narrow)[i]);
    }
  }

  private static void made(Side side) {
    sentence(3 + side.more, "Returns 1 or 0.");
    Shortdecimals x = new Shortdecimals();
    due("0 instead of the ZERO", side.made(x, 0, 0, side.madeHighest), 0);
    side.known(x, 0, 1);
    due("0 instead of the ZERO with SIGN", side.made(x, 0, 0, side.madeLowest), 1);
    int[] n = {side.madeLimit, side.madeLimit, -side.madeLimit, -side.madeLimit, 1, -1, 1, -1};
    int low = side.madeLowest;
    int high = side.madeHighest;
    int[] k = {low, high, low, high, low, low, high, high};
    String[] wide = {"3fefffffff768fa1", "430c6bf525b9ee00", "bfefffffff768fa1", "c30c6bf525b9ee00", "3e112e0be826d695",
      "be112e0be826d695", "412e848000000000", "c12e848000000000"};
    String[] narrow = {"3f7fffef", "4e6e6b18", "bf7fffef", "ce6e6b18", "358637bd", "b58637bd", "447a0000", "c47a0000"};
    for (int i = 0; i < n.length; i++) {
      due("made of " + n[i] + " and " + k[i], side.made(x, 0, n[i], k[i]), 1);
      due("made again", side.made(x, 0, n[i], k[i]), 0);
      due("digits", side.bits(x, 0), side.of(wide, narrow)[i]);
    }
  }

  private static void ten(Side side) {
    sentence(4 + side.more, "Returns 1 or 0.");
    Shortdecimals x = new Shortdecimals();
    int[] k = {-side.tenLimit, side.tenLimit, -4, -3, 0, 6, 7};
    String[] told = {side.of("1.0E-22", "1.0E-10"), side.of("1.0E22", "1.0E10"), "1.0E-4", "0.001", "1.0", "1000000.0", "1.0E7"};
    for (int i = 0; i < k.length; i++) {
      due("ten " + k[i], side.ten(x, 0, k[i]), 1);
      due("ten again", side.ten(x, 0, k[i]), 0);
      due("text", side.text(x, 0), told[i]);
    }
    side.minus(x, 0);
    due("ten instead of that below 0", side.ten(x, 0, 7), 1);
  }

  private static void known(Side side) {
    sentence(5 + side.more, "Returns 1 or 0.");
    for (int one = 0; one < 6; one++) {
      for (int other = 0; other < 6; other++) {
        Shortdecimals x = new Shortdecimals();
        side.known(x, 7, one);
        due("known " + other + " instead of " + one, side.known(x, 7, other), one == other ? 0 : 1);
        due("acts", side.acts(x), 2);
      }
    }
  }

  private static void minus(Side side) {
    sentence(6 + side.more, "Returns its SIGN then.");
    Shortdecimals x = filled();
    int[] signs = {1, 0, 1, 0, 1, 1, 0, 1};
    for (int cell = 0; cell < 8; cell++) {
      String text = side.text(x, cell);
      String turned = text.startsWith("-") ? text.substring(1) : "-" + text;
      due("minus of " + text, side.minus(x, cell), signs[cell]);
      due("its text then", side.text(x, cell), turned);
      due("minus of " + turned, side.minus(x, cell), 1 - signs[cell]);
      due("its text then", side.text(x, cell), text);
    }
  }

  private static void copy(Side side) {
    sentence(7 + side.more, "Returns 1 or 0.");
    for (int from = 0; from < 8; from++) {
      for (int into = 0; into < 8; into++) {
        Shortdecimals x = filled();
        String text = side.text(x, from);
        String bits = side.bits(x, from);
        due("copy from " + from + " into " + into, side.copy(x, from, into), from == into ? 0 : 1);
        due("copy again", side.copy(x, from, into), 0);
        due("text", side.text(x, into), text);
        due("digits", side.bits(x, into), bits);
        due("text of the other cell", side.text(x, from), text);
        due("acts", side.acts(x), 9);
      }
    }
  }

  private static void swap(Side side) {
    sentence(8 + side.more, "Returns 1 if they are not SAME, otherwise 0.");
    for (int one = 0; one < 8; one++) {
      for (int other = 0; other < 8; other++) {
        Shortdecimals x = filled();
        String ofOne = side.text(x, one) + side.bits(x, one);
        String ofOther = side.text(x, other) + side.bits(x, other);
        due("swap of " + one + " and " + other, side.swap(x, one, other), one == other ? 0 : 1);
        due("the one", side.text(x, one) + side.bits(x, one), ofOther);
        due("the other", side.text(x, other) + side.bits(x, other), ofOne);
        side.copy(x, one, other);
        due("swap of SAME ones", side.swap(x, one, other), 0);
        due("acts", side.acts(x), 10);
      }
    }
  }

  private static void sum(Side side) {
    sentence(9 + side.more, "Returns 1 or 0; REFUSED, if there is none, or one of both is no QUARTER.");
    Shortdecimals x = new Shortdecimals();
    side.quarters(x, 0, side.limit);
    side.quarters(x, 1, 1);
    side.quarters(x, 2, -1);
    side.made(x, 3, 125, -3);
    refused("a quarter more than the limit", x, y -> side.sum(y, 0, 1, 0));
    due("a quarter less than the limit", side.sum(x, 0, 2, 0), 1);
    due("its quarters", side.count(x, 0), side.limit - 1);
    due("just the limit", side.sum(x, 0, 1, 0), 1);
    due("the limit and 0 into the limit", side.sum(x, 0, 4, 0), 0);
    refused("half a quarter twice", x, y -> side.sum(y, 3, 3, 4));
    side.minus(x, 0);
    refused("a quarter less than the limit below 0", x, y -> side.sum(y, 2, 0, 2));
    due("a quarter more than the limit below 0", side.sum(x, 1, 0, 1), 1);
    due("its quarters", side.count(x, 1), 1 - side.limit);
    due("acts", side.acts(x), 9);
  }

  // ---- texts

  private static void texts(Side side) {
    text(side);
    signs(side);
    parts(side);
    hash(side);
    fromTo(side);
    count(side);
  }

  private static void text(Side side) {
    sentence(10 + side.more, "Returns its TEXT.");
    Shortdecimals x = filled();
    String[] told = {"1.25", "-0.0123", "1.0E9", "-Infinity", side.of("1.7976931348623157E308", "3.4028235E38"),
      side.of("4.9E-324", "1.4E-45"), "-0.0", "0.0"};
    for (int way = 0; way < 5; way++) {
      for (int cell = 0; cell < 8; cell++) {
        due("cell " + cell + " by way " + way, side.text(x, cell, way), told[cell]);
      }
    }
    due("acts", side.acts(x), 7);
  }

  private static void signs(Side side) {
    Shortdecimals x = filled();
    side.known(x, 7, 4);
    side.minus(x, 7);
    int[] lengths = {4, 7, 5, 9, side.of(22, 12), side.of(8, 7), 4, side.of(23, 13)};
    int[] first = {'1', '-', '1', '-', side.of('1', '3'), side.of('4', '1'), '-', '-'};
    int[] last = {'5', '3', '9', 'y', '8', side.of('4', '5'), '0', '8'};
    int[] points = {1, 2, 1, NONE, 1, 1, 2, 2};
    for (int cell = 0; cell < 8; cell++) {
      String text = side.text(x, cell);
      sentence(11 + side.more, "Returns how many signs its TEXT has.");
      due("length of " + text, side.length(x, cell), lengths[cell]);
      sentence(12 + side.more, "Returns the code of the sign of its TEXT there; NONE without.");
      due("the first sign of " + text, side.sign(x, cell, 0), first[cell]);
      due("the last sign of " + text, side.sign(x, cell, lengths[cell] - 1), last[cell]);
      for (int place : new int[] {-1, lengths[cell], lengths[cell] + 1, Integer.MIN_VALUE, Integer.MAX_VALUE}) {
        due("sign " + place + " of " + text, side.sign(x, cell, place), NONE);
      }
      sentence(13 + side.more, "Returns the place of the \".\" in its TEXT; NONE without.");
      due("point of " + text, side.point(x, cell), points[cell]);
    }
    side.known(x, 0, 2);
    due("point of Infinity", side.point(x, 0), NONE);
    side.quarters(x, 0, 400000);
    due("point of 100000.0", side.point(x, 0), 6);
  }

  private static void parts(Side side) {
    Shortdecimals x = filled();
    int[] powers = {NO_POWER, NO_POWER, 9, NO_POWER, side.of(308, 38), side.of(-324, -45), NO_POWER, NO_POWER};
    int[] digits = {3, 5, 2, 0, side.of(17, 8), 2, 2, 2};
    int[] forms = {0, 0, 1, 2, 1, 1, 0, 0};
    for (int cell = 0; cell < 8; cell++) {
      for (int sign = 0; sign < 2; sign++) {
        String text = side.text(x, cell);
        sentence(14 + side.more, "Returns the number that stands behind \"E\" in its TEXT; -9999 without.");
        due("power of " + text, side.power(x, cell), powers[cell]);
        sentence(15 + side.more, "Returns how many digits its TEXT has (those behind \"E\" do not count).");
        due("digits of " + text, side.digits(x, cell), digits[cell]);
        sentence(16 + side.more, "Returns its FORM.");
        due("form of " + text, side.form(x, cell), forms[cell]);
        side.minus(x, cell);
      }
    }
    // from SPLIT to PLAIN and back at both edges
    part(side, -4, 1, -4, 2);
    part(side, -3, 0, NO_POWER, 4);
    part(side, 6, 0, NO_POWER, 8);
    part(side, 7, 1, 7, 2);
    part(side, -side.tenLimit, 1, -side.tenLimit, 2);
    part(side, side.tenLimit, 1, side.tenLimit, 2);
  }

  private static void part(Side side, int k, int form, int power, int digits) {
    Shortdecimals x = new Shortdecimals();
    side.ten(x, 0, k);
    sentence(14 + side.more, "-9999 without.");
    due("power of 10^" + k, side.power(x, 0), power);
    sentence(15 + side.more, "(those behind \"E\" do not count)");
    due("digits of 10^" + k, side.digits(x, 0), digits);
    sentence(16 + side.more, "Returns its FORM.");
    due("form of 10^" + k, side.form(x, 0), form);
  }

  private static void hash(Side side) {
    sentence(21 + side.more, "Returns of its TEXT: a number h starts with 0; then, sign by sign, h becomes 31 * h + its code,"
        + " which wraps around as a 32-bit integer.");
    Shortdecimals x = filled();
    side.known(x, 7, 2);
    for (int cell = 0; cell < 8; cell++) {
      String text = side.text(x, cell);
      BigInteger h = BigInteger.ZERO;
      for (char sign : text.toCharArray()) {
        h = h.multiply(BigInteger.valueOf(31)).add(BigInteger.valueOf(sign));
      }
      due("hash of " + text, side.hash(x, cell), h.intValue());
      due("does that of " + text + " wrap around", h.bitLength() > 31, text.length() > 6);
    }
    side.quarters(x, 0, 0);
    due("hash of 0.0", side.hash(x, 0), 47602);
    due("hash of Infinity", side.hash(x, 7), 237817416);
    due("hash of -Infinity", side.hash(x, 3), 506745205);
  }

  private static void fromTo(Side side) {
    sentence(22 + side.more, "Returns the TEXTS of the cells from the first one to the last one, with one blank between; \"\" if"
        + " the first one is behind the last one.");
    Shortdecimals x = filled();
    for (int from = 0; from < 8; from++) {
      for (int to = 0; to < 8; to++) {
        StringBuilder texts = new StringBuilder();
        for (int cell = from; cell <= to; cell++) {
          texts.append(cell == from ? "" : " ").append(side.text(x, cell));
        }
        due("texts from " + from + " to " + to, side.texts(x, from, to), texts.toString());
      }
    }
    Shortdecimals longest = new Shortdecimals();
    for (int cell = 0; cell < 8; cell++) {
      side.known(longest, cell, 4);
      side.minus(longest, cell);
    }
    String one = side.of("-1.7976931348623157E308", "-3.4028235E38");
    due("the longest that can be", side.texts(longest, 0, 7), (one + " ").repeat(7) + one);
    due("the cell behind the last one", side.texts(longest, 1, 0), "");
    due("the last cell to the first one", side.texts(longest, 7, 0), "");
  }

  private static void count(Side side) {
    sentence(23 + side.more, "Returns how many quarters it is; -2147483648, if it is no QUARTER.");
    Shortdecimals x = filled();
    int[] counts = {5, NO_QUARTER, NO_QUARTER, NO_QUARTER, NO_QUARTER, NO_QUARTER, 0, 0};
    for (int cell = 0; cell < 8; cell++) {
      due("count of " + side.text(x, cell), side.count(x, cell), counts[cell]);
    }
    for (int quarters : new int[] {side.limit, -side.limit, 1, -1, 0}) {
      side.quarters(x, 0, quarters);
      due("count of " + side.text(x, 0), side.count(x, 0), quarters);
    }
    int[][] none = {{125, -3}, {-125, -3}, {1, -1}, {375, -3}, {side.of(250000001, 100001), 0}, {-side.of(250000001, 100001), 0}};
    for (int[] parts : none) {
      side.made(x, 0, parts[0], parts[1]);
      due("count of " + side.text(x, 0), side.count(x, 0), NO_QUARTER);
    }
    side.made(x, 0, side.of(250000000, 100000), 0);
    due("count of " + side.text(x, 0), side.count(x, 0), side.limit);
  }

  private static void pairs(Side side) {
    for (int one = 0; one < 8; one++) {
      Shortdecimals x = filled();
      side.minus(x, 2);
      side.known(x, 3, 2);
      int[] order = {5, 1, 0, 7, 6, 4, 2, 3};
      for (int other = 0; other < 8; other++) {
        String texts = side.text(x, one) + " " + side.text(x, other);
        sentence(17 + side.more, "Returns whether both are SAME (by all ways alike).");
        for (int how = 0; how < 3; how++) {
          due("by " + how + ": " + texts, side.same(x, one, other, how), one == other);
        }
        sentence(18 + side.more, "Returns -1 if the first one stands ahead by ORDER, 0 if they are SAME, 1 otherwise.");
        due(texts, side.order(x, one, other), Integer.compare(order[one], order[other]));
        sentence(19 + side.more, "Returns the same by ORDER of their TEXTS.");
        due(texts, side.textOrder(x, one, other), Integer.signum(side.text(x, one).compareTo(side.text(x, other))));
        sentence(20 + side.more, "Returns whether their TEXTS are the same but for a \"-\" ahead.");
        due(texts, side.like(x, one, other), one == other || one + other == 13);
      }
    }
    like(side);
  }

  private static void like(Side side) {
    sentence(20 + side.more, "Returns whether their TEXTS are the same but for a \"-\" ahead.");
    Shortdecimals x = new Shortdecimals();
    int[][] parts = {{1, 0}, {10, 0}, {11, 0}, {10000, 3}, {1, -1}, {1, -4}};
    for (int cell = 0; cell < parts.length; cell++) {
      side.made(x, cell, parts[cell][0], parts[cell][1]);
    }
    for (int one = 0; one < 6; one++) {
      side.copy(x, one, 7);
      side.minus(x, 7);
      for (int other = 0; other < 6; other++) {
        due(side.text(x, one) + " like " + side.text(x, other), side.like(x, one, other), one == other);
        due(side.text(x, 7) + " like " + side.text(x, other), side.like(x, 7, other), one == other);
        due(side.text(x, other) + " like " + side.text(x, 7), side.like(x, other, 7), one == other);
      }
    }
    side.known(x, 0, 2);
    side.known(x, 1, 3);
    due("both ENDLESS ones", side.like(x, 0, 1), true);
    due("both ENDLESS ones the other way", side.like(x, 1, 0), true);
    side.known(x, 0, 0);
    side.known(x, 1, 1);
    due("both ZEROS", side.like(x, 0, 1), true);
    due("the ZERO with SIGN and itself", side.like(x, 1, 1), true);
  }

  // ---- digits

  private static void bits() {
    Shortdecimals x = new Shortdecimals();
    int[] upper = {0, 0x80000000, 0x7ff00000, 0xfff00000, 0x7fefffff, 0};
    int[] lower = {0, 0, 0, 0, -1, 1};
    int[] narrow = {0, 0x80000000, 0x7f800000, 0xff800000, 0x7f7fffff, 1};
    for (int which = 0; which < 6; which++) {
      x.wideKnown(which, which);
      x.narrowKnown(which, which);
      sentence(24, "Returns the first 32 of its DIGITS, as an int.");
      due("known " + which, x.upper(which), upper[which]);
      sentence(25, "Returns the last 32 of its DIGITS, as an int.");
      due("known " + which, x.lower(which), lower[which]);
      sentence(48, "Returns its DIGITS, as an int.");
      due("known " + which, x.digits(which), narrow[which]);
    }
    // the first of the lower digits is one: an int below 0, which leaves the upper ones as they are
    x.wideMade(0, 1, -1);
    sentence(24, "Returns the first 32 of its DIGITS, as an int.");
    due("of 0.1", x.upper(0), 1069128089);
    sentence(25, "Returns the last 32 of its DIGITS, as an int.");
    due("of 0.1", x.lower(0), -1717986918);
    x.wideMinus(0);
    due("of -0.1", x.lower(0), -1717986918);
    sentence(24, "Returns the first 32 of its DIGITS, as an int.");
    due("of -0.1", x.upper(0), -1078355559);
  }

  // ---- both kinds

  private static void narrowed() {
    sentence(49, "Returns 1 or 0; REFUSED, if the WIDE one is neither ENDLESS nor n / 4 with a whole n of -400000 to 400000.");
    Shortdecimals x = new Shortdecimals();
    for (int quarters : new int[] {400000, -400000, 399999, -399999, 1, -1}) {
      x.wideQuarters(0, quarters);
      due("narrowed of " + quarters + " quarters", x.narrowed(0, 7), 1);
      due("narrowed again", x.narrowed(0, 7), 0);
      due("its quarters", x.narrowCount(7), quarters);
    }
    sentence(49, "becomes that of the value of a WIDE one, with its SIGN.");
    String[] known = {"0.0", "-0.0", "Infinity", "-Infinity"};
    for (int which = 0; which < 4; which++) {
      x.wideKnown(0, which);
      due("narrowed of " + known[which], x.narrowed(0, 7), 1);
      due("narrowed again", x.narrowed(0, 7), 0);
      due("its text", x.narrowText(7, 0), known[which]);
    }
    due("acts and refusals", x.house(0) + " " + x.house(1) + " " + x.house(2), "10 20 0");
    sentence(49, "Returns 1 or 0; REFUSED, if the WIDE one is neither ENDLESS nor n / 4 with a whole n of -400000 to 400000.");
    for (int quarters : new int[] {400001, -400001, 1000000000, -1000000000}) {
      narrowedNone("quarters " + quarters, y -> y.wideQuarters(0, quarters));
    }
    int[][] none = {{125, -3}, {-125, -3}, {1, -1}, {100001, 0}, {250000001, -9}, {16777216, 6}, {1, -9}, {999999999, 6}};
    for (int[] parts : none) {
      narrowedNone("made of " + parts[0] + " and " + parts[1], y -> y.wideMade(0, parts[0], parts[1]));
    }
    narrowedNone("the greatest one", y -> y.wideKnown(0, 4));
    narrowedNone("the least one", y -> y.wideKnown(0, 5));
  }

  private static void narrowedNone(String name, Call put) {
    Shortdecimals x = filled();
    put.on(x);
    for (int cell = 0; cell < 8; cell++) {
      int narrow = cell;
      refused("narrowed of " + name + " into " + narrow, x, y -> y.narrowed(0, narrow));
    }
  }

  private static void widened() {
    sentence(50, "Returns 1 or 0; REFUSED, if the NARROW one is neither ENDLESS nor a QUARTER.");
    Shortdecimals x = new Shortdecimals();
    for (int quarters : new int[] {400000, -400000, 399999, -399999, 1, -1}) {
      x.narrowQuarters(0, quarters);
      due("widened of " + quarters + " quarters", x.widened(0, 7), 1);
      due("widened again", x.widened(0, 7), 0);
      due("its quarters", x.wideCount(7), quarters);
    }
    sentence(50, "becomes that of the value of a NARROW one, with its SIGN.");
    String[] known = {"0.0", "-0.0", "Infinity", "-Infinity"};
    for (int which = 0; which < 4; which++) {
      x.narrowKnown(0, which);
      due("widened of " + known[which], x.widened(0, 7), 1);
      due("widened again", x.widened(0, 7), 0);
      due("its text", x.wideText(7, 0), known[which]);
    }
    due("acts and refusals", x.house(0) + " " + x.house(1) + " " + x.house(2), "20 10 0");
    sentence(50, "Returns 1 or 0; REFUSED, if the NARROW one is neither ENDLESS nor a QUARTER.");
    int[][] none = {{125, -3}, {-125, -3}, {1, -1}, {100001, 0}, {-100001, 0}, {250001, -6}, {1, -6}, {999999, 3}, {524288, 3}};
    for (int[] parts : none) {
      widenedNone("made of " + parts[0] + " and " + parts[1], y -> y.narrowMade(0, parts[0], parts[1]));
    }
    widenedNone("the greatest one", y -> y.narrowKnown(0, 4));
    widenedNone("the least one", y -> y.narrowKnown(0, 5));
  }

  private static void widenedNone(String name, Call put) {
    Shortdecimals x = filled();
    put.on(x);
    for (int cell = 0; cell < 8; cell++) {
      int wide = cell;
      refused("widened of " + name + " into " + wide, x, y -> y.widened(0, wide));
    }
  }

  private static void bothKinds() {
    Shortdecimals x = filled();
    String[] wide = x.wideTexts(0, 7).split(" ");
    String[] narrow = x.narrowTexts(0, 7).split(" ");
    for (int a = 0; a < 8; a++) {
      for (int b = 0; b < 8; b++) {
        String texts = wide[a] + " " + narrow[b];
        sentence(51, "Returns whether their TEXTS are the same.");
        due(texts, x.areAlike(a, b), wide[a].equals(narrow[b]));
        sentence(52, "Returns the ORDER of their TEXTS: -1, 0 or 1.");
        due(texts, x.textOrder(a, b), Integer.signum(wide[a].compareTo(narrow[b])));
        sentence(53, "Returns both TEXTS, one blank between.");
        due(texts, x.both(a, b, true), texts);
        due(texts + ", the narrow one first", x.both(a, b, false), narrow[b] + " " + wide[a]);
      }
    }
    // their texts are the same, though their values are not
    x.wideMade(0, 1, -1);
    x.narrowMade(0, 100000, -6);
    sentence(51, "Returns whether their TEXTS are the same.");
    due("0.1 of both kinds", x.areAlike(0, 0), true);
    x.narrowMinus(0);
    due("0.1 and -0.1", x.areAlike(0, 0), false);
    sentence(52, "Returns the ORDER of their TEXTS: -1, 0 or 1.");
    due("0.1 and -0.1", x.textOrder(0, 0), 1);
  }

  // ---- the house

  private static void knock() {
    sentence(54, "Returns how often one knocked, with this.");
    Shortdecimals x = new Shortdecimals();
    for (int knocks = 1; knocks <= 250; knocks++) {
      due("knock", x.knock(), knocks);
      due("house(3)", x.house(3), knocks);
    }
    due("knock of another object", new Shortdecimals().knock(), 1);
    due("acts and refusals", x.house(0) + x.house(1) + x.house(2), 0);
  }

  private static void house() {
    range(55, "what is not 0 to 3", 0, 3, (x, what) -> x.house(what));
    sentence(55, "0 how many ACTS were done on WIDE cells (also if all stayed), 1 on NARROW ones");
    for (Side side : Side.values()) {
      Call[] acts = {x -> side.quarters(x, 0, 0), x -> side.made(x, 0, 0, 0), x -> side.ten(x, 0, 0), x -> side.known(x, 0, 0),
        x -> side.minus(x, 0), x -> side.copy(x, 0, 0), x -> side.swap(x, 0, 0), x -> side.sum(x, 0, 0, 0),
        x -> side.isWide ? x.widened(0, 0) : x.narrowed(0, 0)};
      Shortdecimals all = new Shortdecimals();
      for (int i = 0; i < acts.length; i++) {
        Shortdecimals x = new Shortdecimals();
        acts[i].on(x);
        acts[i].on(x);
        due("act " + i + " twice", side.acts(x) + " " + side.actsOfOther(x) + " " + x.house(2) + " " + x.house(3), "2 0 0 0");
        acts[i].on(all);
        due("acts up to " + i, side.acts(all), i + 1);
      }
    }
    sentence(55, "REFUSED ones are none");
    for (Calls.OfCell each : Calls.refused()) {
      Shortdecimals x = filled();
      each.on.call(x, 0);
      due(each.name, x.house(0) + " " + x.house(1) + " " + x.house(2) + " " + x.house(3), "7 7 1 1");
    }
    questionsAreNone();
  }

  private static void questionsAreNone() {
    sentence(55, "Returns that (ACTS are the first eight methods of a kind, from quarters to SUM, and narrowed(), widened()");
    for (Calls.OfCell each : Calls.withOneCell()) {
      boolean isAct = each.promise <= 9 || each.promise > 25 && each.promise <= 33 || each.promise == 49 || each.promise == 50;
      boolean isWide = each.promise <= 25 || each.promise == 50;
      Shortdecimals x = new Shortdecimals();
      each.on.call(x, 1);
      due(each.name, x.house(0) + " " + x.house(1), isAct ? isWide ? "1 0" : "0 1" : "0 0");
    }
    Shortdecimals x = new Shortdecimals();
    x.knock();
    x.isSound();
    x.digest();
    due("knock, isSound, digest", x.house(0) + " " + x.house(1) + " " + x.house(2), "0 0 0");
  }

  private static void sound() {
    sentence(56, "Returns whether all of this is so: the WAYS tell the same of each one; of each two of one kind the TEXTS are the"
        + " same just if they are SAME; the TEXT with the other SIGN is the same but for \"-\"; places, lengths and digits that are"
        + " told are those of the TEXTS.");
    due("a new object", new Shortdecimals().isSound(), true);
    Shortdecimals x = filled();
    String state = state(x);
    due("a filled one", x.isSound(), true);
    due("its state then", state(x), state);
    for (Side side : Side.values()) {
      for (int cell = 0; cell < 8; cell++) {
        side.copy(x, cell, 7 - cell);
        due("with SAME ones", x.isSound(), true);
        side.minus(x, cell);
        due("with the other SIGN", x.isSound(), true);
      }
      for (int which = 0; which < 6; which++) {
        for (int cell = 0; cell < 8; cell++) {
          side.known(x, cell, which);
        }
        due("with all as known " + which, x.isSound(), true);
      }
    }
  }

  private static void digest() {
    sentence(57, "A number d starts with 7795; then d becomes d * 31 + v, which wraps around as a 64-bit integer");
    digestIs("a new object", new Shortdecimals());
    digestIs("a filled one", filled());
    Shortdecimals refused = filled();
    refused.wideSum(1, 1, 1);
    digestIs("one with a refusal", refused);
    Shortdecimals knocked = filled();
    knocked.knock();
    digestIs("one with a knock more", knocked);
    Shortdecimals turned = filled();
    turned.narrowMinus(0);
    digestIs("one with another SIGN", turned);
    sentence(57, "Returns d.");
    due("a new object", new Shortdecimals().digest(), new Shortdecimals().digest());
    due("a filled one", filled().digest(), filled().digest());
  }

  /** Reckoned without an end of digits; what is above 64 binary digits goes away at the end alone. */
  private static void digestIs(String name, Shortdecimals x) {
    BigInteger d = BigInteger.valueOf(7795);
    for (int what = 0; what < 4; what++) {
      d = next(d, x.house(what));
    }
    for (Side side : Side.values()) {
      for (int cell = 0; cell < 8; cell++) {
        d = side.isWide ? next(next(d, x.upper(cell)), x.lower(cell)) : next(d, x.digits(cell));
        int[] told = {side.length(x, cell), side.hash(x, cell), side.form(x, cell), side.power(x, cell), side.digits(x, cell),
          side.count(x, cell)};
        for (int v : told) {
          d = next(d, v);
        }
      }
    }
    for (Side side : Side.values()) {
      for (int one = 0; one < 8; one++) {
        for (int other = one + 1; other < 8; other++) {
          d = next(next(d, side.order(x, one, other)), side.textOrder(x, one, other));
        }
      }
    }
    d = next(d, x.isSound() ? 1 : 0);
    due("digest of " + name, x.digest(), d.longValue());
    due("does it wrap around", d.bitLength() > 63, true);
  }

  private static BigInteger next(BigInteger d, int v) {
    return d.multiply(BigInteger.valueOf(31)).add(BigInteger.valueOf(v));
  }
}
