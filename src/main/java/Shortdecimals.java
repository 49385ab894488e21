/**
 * Sixteen cells of numbers of two kinds, each told as the shortest text of digits that leads back to it. All is
 * reckoned with whole numbers: the answers are exact, and no double or float is ever used.
 */
public final class Shortdecimals {
  private static final int CELLS = 8;
  private static final int WAYS = 5;
  private static final int NONE = -1;
  private static final int REFUSED = -9;
  private static final int NO_POWER = -9999;
  private static final int NO_QUARTER = -2147483648;
  private static final int PLAIN = 0;
  private static final int SPLIT = 1;
  private static final int ENDLESS = 2;

  private final Bank wides;
  private final Bank narrows;
  private int knocks;

  public Shortdecimals() {
    Teller teller = new Teller();
    Writer writer = new Writer();
    wides = new Bank(Kind.WIDE, teller, writer);
    narrows = new Bank(Kind.NARROW, teller, writer);
  }

  // ---- wide ones

  public int wideQuarters(int cell, int quarters) throws IndexOutOfBoundsException, IllegalArgumentException {
    return wides.becomeQuarters(cell, quarters);
  }

  public int wideMade(int cell, int n, int k) throws IndexOutOfBoundsException, IllegalArgumentException {
    return wides.becomeMade(cell, n, k);
  }

  public int wideTen(int cell, int k) throws IndexOutOfBoundsException, IllegalArgumentException {
    return wides.becomeTen(cell, k);
  }

  public int wideKnown(int cell, int which) throws IndexOutOfBoundsException, IllegalArgumentException {
    return wides.becomeKnown(cell, which);
  }

  public int wideMinus(int cell) throws IndexOutOfBoundsException {
    return wides.turnSign(cell);
  }

  public int wideCopy(int from, int into) throws IndexOutOfBoundsException {
    return wides.copy(from, into);
  }

  public int wideSwap(int one, int other) throws IndexOutOfBoundsException {
    return wides.swap(one, other);
  }

  public int wideSum(int one, int other, int into) throws IndexOutOfBoundsException {
    return wides.becomeSum(one, other, into);
  }

  public String wideText(int cell, int way) throws IndexOutOfBoundsException, IllegalArgumentException {
    return wides.textOf(cell, way);
  }

  public int wideLength(int cell) throws IndexOutOfBoundsException {
    return wides.at(cell).text.length();
  }

  public int wideSign(int cell, int place) throws IndexOutOfBoundsException {
    return wides.at(cell).codeAt(place);
  }

  public int widePoint(int cell) throws IndexOutOfBoundsException {
    return wides.at(cell).pointPlace();
  }

  public int widePower(int cell) throws IndexOutOfBoundsException {
    return wides.at(cell).powerTold();
  }

  public int wideDigits(int cell) throws IndexOutOfBoundsException {
    return wides.at(cell).digitsTold();
  }

  public int wideForm(int cell) throws IndexOutOfBoundsException {
    return wides.at(cell).form;
  }

  public boolean wideSame(int one, int other, int how) throws IndexOutOfBoundsException, IllegalArgumentException {
    return wides.areSame(one, other, how);
  }

  public int wideOrder(int one, int other) throws IndexOutOfBoundsException {
    return wides.order(one, other);
  }

  public int wideTextOrder(int one, int other) throws IndexOutOfBoundsException {
    return orderOfTexts(wides.at(one).text, wides.at(other).text);
  }

  public boolean wideLike(int one, int other) throws IndexOutOfBoundsException {
    return areSameButForMinus(wides.at(one).text, wides.at(other).text);
  }

  public int wideHash(int cell) throws IndexOutOfBoundsException {
    return wides.at(cell).hashOfText();
  }

  public String wideTexts(int from, int to) throws IndexOutOfBoundsException {
    return wides.textsOf(from, to);
  }

  public int wideCount(int cell) throws IndexOutOfBoundsException {
    return wides.countOf(wides.at(cell));
  }

  public int upper(int cell) throws IndexOutOfBoundsException {
    return (int) (wides.at(cell).wideBits() >>> 32);
  }

  public int lower(int cell) throws IndexOutOfBoundsException {
    return (int) wides.at(cell).wideBits();
  }

  // ---- narrow ones

  public int narrowQuarters(int cell, int quarters) throws IndexOutOfBoundsException, IllegalArgumentException {
    return narrows.becomeQuarters(cell, quarters);
  }

  public int narrowMade(int cell, int n, int k) throws IndexOutOfBoundsException, IllegalArgumentException {
    return narrows.becomeMade(cell, n, k);
  }

  public int narrowTen(int cell, int k) throws IndexOutOfBoundsException, IllegalArgumentException {
    return narrows.becomeTen(cell, k);
  }

  public int narrowKnown(int cell, int which) throws IndexOutOfBoundsException, IllegalArgumentException {
    return narrows.becomeKnown(cell, which);
  }

  public int narrowMinus(int cell) throws IndexOutOfBoundsException {
    return narrows.turnSign(cell);
  }

  public int narrowCopy(int from, int into) throws IndexOutOfBoundsException {
    return narrows.copy(from, into);
  }

  public int narrowSwap(int one, int other) throws IndexOutOfBoundsException {
    return narrows.swap(one, other);
  }

  public int narrowSum(int one, int other, int into) throws IndexOutOfBoundsException {
    return narrows.becomeSum(one, other, into);
  }

  public String narrowText(int cell, int way) throws IndexOutOfBoundsException, IllegalArgumentException {
    return narrows.textOf(cell, way);
  }

  public int narrowLength(int cell) throws IndexOutOfBoundsException {
    return narrows.at(cell).text.length();
  }

  public int narrowSign(int cell, int place) throws IndexOutOfBoundsException {
    return narrows.at(cell).codeAt(place);
  }

  public int narrowPoint(int cell) throws IndexOutOfBoundsException {
    return narrows.at(cell).pointPlace();
  }

  public int narrowPower(int cell) throws IndexOutOfBoundsException {
    return narrows.at(cell).powerTold();
  }

  public int narrowDigits(int cell) throws IndexOutOfBoundsException {
    return narrows.at(cell).digitsTold();
  }

  public int narrowForm(int cell) throws IndexOutOfBoundsException {
    return narrows.at(cell).form;
  }

  public boolean narrowSame(int one, int other, int how) throws IndexOutOfBoundsException, IllegalArgumentException {
    return narrows.areSame(one, other, how);
  }

  public int narrowOrder(int one, int other) throws IndexOutOfBoundsException {
    return narrows.order(one, other);
  }

  public int narrowTextOrder(int one, int other) throws IndexOutOfBoundsException {
    return orderOfTexts(narrows.at(one).text, narrows.at(other).text);
  }

  public boolean narrowLike(int one, int other) throws IndexOutOfBoundsException {
    return areSameButForMinus(narrows.at(one).text, narrows.at(other).text);
  }

  public int narrowHash(int cell) throws IndexOutOfBoundsException {
    return narrows.at(cell).hashOfText();
  }

  public String narrowTexts(int from, int to) throws IndexOutOfBoundsException {
    return narrows.textsOf(from, to);
  }

  public int narrowCount(int cell) throws IndexOutOfBoundsException {
    return narrows.countOf(narrows.at(cell));
  }

  public int digits(int cell) throws IndexOutOfBoundsException {
    return narrows.at(cell).narrowBits();
  }

  // ---- both kinds

  public int narrowed(int wide, int narrow) throws IndexOutOfBoundsException {
    return narrows.becomeOfOtherKind(wides.at(wide), Kind.WIDE, narrows.at(narrow));
  }

  public int widened(int narrow, int wide) throws IndexOutOfBoundsException {
    return wides.becomeOfOtherKind(narrows.at(narrow), Kind.NARROW, wides.at(wide));
  }

  public boolean areAlike(int wide, int narrow) throws IndexOutOfBoundsException {
    return wides.at(wide).text.equals(narrows.at(narrow).text);
  }

  public int textOrder(int wide, int narrow) throws IndexOutOfBoundsException {
    return orderOfTexts(wides.at(wide).text, narrows.at(narrow).text);
  }

  public String both(int wide, int narrow, boolean isWideFirst) throws IndexOutOfBoundsException {
    String wideOne = wides.at(wide).text;
    String narrowOne = narrows.at(narrow).text;
    StringBuilder joined = new StringBuilder();
    joined.append(isWideFirst ? wideOne : narrowOne);
    joined.append(' ');
    joined.append(isWideFirst ? narrowOne : wideOne);
    return joined.toString();
  }

  // ---- the house

  public int knock() {
    knocks++;
    return knocks;
  }

  public int house(int what) throws IllegalArgumentException {
    switch (what) {
      case 0:
        return wides.acts;
      case 1:
        return narrows.acts;
      case 2:
        return wides.refusals + narrows.refusals;
      case 3:
        return knocks;
      default:
        throw new IllegalArgumentException("the house tells 0 to 3");
    }
  }

  public boolean isSound() {
    return wides.areCellsSound() && narrows.areCellsSound() && wides.arePairsSound() && narrows.arePairsSound();
  }

  public long digest() {
    long sum = 7795L;
    for (int what = 0; what < 4; what++) {
      sum = sum * 31 + house(what);
    }
    for (int cell = 0; cell < CELLS; cell++) {
      sum = sum * 31 + upper(cell);
      sum = sum * 31 + lower(cell);
      sum = wides.digestOf(cell, sum);
    }
    for (int cell = 0; cell < CELLS; cell++) {
      sum = sum * 31 + digits(cell);
      sum = narrows.digestOf(cell, sum);
    }
    sum = wides.digestOfPairs(sum);
    sum = narrows.digestOfPairs(sum);
    return sum * 31 + (isSound() ? 1 : 0);
  }

  // ---- texts

  /** -1, 0 or 1 by the first sign that is unlike; a beginning stands ahead of the longer one. */
  private static int orderOfTexts(String one, String other) {
    int shorter = Math.min(one.length(), other.length());
    for (int place = 0; place < shorter; place++) {
      if (one.charAt(place) != other.charAt(place)) {
        return one.charAt(place) < other.charAt(place) ? -1 : 1;
      }
    }
    return Integer.compare(one.length(), other.length());
  }

  private static boolean areSameButForMinus(String one, String other) {
    int oneStart = minusesAhead(one);
    int otherStart = minusesAhead(other);
    int length = one.length() - oneStart;
    if (other.length() - otherStart != length) {
      return false;
    }
    for (int place = 0; place < length; place++) {
      if (one.charAt(oneStart + place) != other.charAt(otherStart + place)) {
        return false;
      }
    }
    return true;
  }

  private static int minusesAhead(String text) {
    return !text.isEmpty() && text.charAt(0) == '-' ? 1 : 0;
  }

  /** How numbers of a kind are laid out, and what may be made of them. A body is a number's digits without the sign. */
  private enum Kind {
    WIDE(52, 1023, 1000000000, 999999999, -9, 6, 22),
    NARROW(23, 127, 400000, 999999, -6, 3, 10);

    /** Far below the last binary place that a rounding looks at: 5^22 has 52 digits, a significand 53. */
    private static final int LOWEST_PLACE = -128;

    final int fractionLength;
    final int bias;
    final int quarterLimit;
    final int madeLimit;
    final int madeLowest;
    final int madeHighest;
    final int tenLimit;

    Kind(int fractionLength, int bias, int quarterLimit, int madeLimit, int madeLowest, int madeHighest, int tenLimit) {
      this.fractionLength = fractionLength;
      this.bias = bias;
      this.quarterLimit = quarterLimit;
      this.madeLimit = madeLimit;
      this.madeLowest = madeLowest;
      this.madeHighest = madeHighest;
      this.tenLimit = tenLimit;
    }

    long endlessBody() {
      return (2L * bias + 1) << fractionLength;
    }

    int exponentOf(long body) {
      return (int) (body >> fractionLength);
    }

    long fractionOf(long body) {
      return body & ((1L << fractionLength) - 1);
    }

    /** The whole number that, times two to twosOf(body), is the value. */
    long significandOf(long body) {
      long fraction = fractionOf(body);
      return exponentOf(body) == 0 ? fraction : (1L << fractionLength) + fraction;
    }

    int twosOf(long body) {
      return Math.max(exponentOf(body), 1) - bias - fractionLength;
    }

    /** Whether the next number below is only half as far away as the next one above. */
    boolean isNearerBelow(long body) {
      return fractionOf(body) == 0 && exponentOf(body) > 1;
    }

    /** How many quarters the value is, without the sign; NONE if it is not so many as one may make. */
    long quartersOf(long body) {
      if (body >= endlessBody()) {
        return NONE;
      }
      int shift = -2 - twosOf(body);
      // without a shift to the right the significand alone, if not 0, is above every limit
      if (shift < 0 || shift > 62) {
        return body == 0 ? 0 : NONE;
      }
      long quarters = significandOf(body) >> shift;
      boolean isWhole = (quarters << shift) == significandOf(body);
      return isWhole && quarters <= quarterLimit ? quarters : NONE;
    }

    long bodyOfQuarters(long quarters) {
      return nearest(quarters, 1, -2);
    }

    /** The body of the number nearest to n * 10^k; n is not below 0, k from -22 to 22. */
    long bodyOfMade(long n, int k) {
      return k < 0 ? nearest(n, powerOfFive(-k), k) : nearest(n * powerOfFive(k), 1, k);
    }

    private static long powerOfFive(int exponent) {
      long power = 1;
      for (int i = 0; i < exponent && i < 22; i++) {
        power *= 5;
      }
      return power;
    }

    /**
     * The body nearest to dividend / divisor * 2^twos, by long division in binary: it keeps as many places as a
     * significand has and one more, which tells the half.
     */
    private long nearest(long dividend, long divisor, int twos) {
      if (dividend <= 0 || divisor <= 0) {
        return 0;
      }
      long kept = 0;
      long rest = 0;
      int lastPlace = 0;
      boolean isMore = false;
      for (int place = 62; place >= LOWEST_PLACE; place--) {
        rest = rest * 2 + (place < 0 ? 0 : (dividend >> place) & 1);
        boolean isOne = rest >= divisor;
        rest = isOne ? rest - divisor : rest;
        if (kept >> (fractionLength + 1) == 0) {
          kept = kept * 2 + (isOne ? 1 : 0);
          lastPlace = place;
        } else {
          isMore = isMore || isOne;
        }
      }
      return rounded(kept, isMore || rest != 0, lastPlace + twos);
    }

    /** kept has its half as the last binary digit; all that may be made lies far from the ends of the exponents. */
    private long rounded(long kept, boolean isMore, int twos) {
      long significand = kept >> 1;
      boolean isHalf = (kept & 1) == 1;
      if (isHalf && (isMore || (significand & 1) == 1)) {
        significand++;
      }
      // adding, not joining: the significand's own leading one, or a carry above it, raises the exponent
      long exponentBelow = twos + 1 + bias + fractionLength - 1;
      return (exponentBelow << fractionLength) + significand;
    }
  }

  /** A number and its text: the parts that the text is made of, and the text itself. */
  private static final class Cell {
    int sign;
    long body;
    /** The digits of the decimal that is told, without zeros at the end; 0 of a zero. */
    long told;
    /** The power of ten of the first of them. */
    int power;
    int form = PLAIN;
    String text = "0.0";

    boolean isSame(int otherSign, long otherBody) {
      return sign == otherSign && body == otherBody;
    }

    void becomeLike(Cell other) {
      sign = other.sign;
      body = other.body;
      told = other.told;
      power = other.power;
      form = other.form;
      text = other.text;
    }

    /** Stands below 0 for a number with a sign, so that the zero with a sign comes just ahead of the other one. */
    long rank() {
      return sign == 1 ? -1 - body : body;
    }

    long wideBits() {
      return ((long) sign << 63) | body;
    }

    int narrowBits() {
      return (sign << 31) | (int) body;
    }

    int codeAt(int place) {
      return place < 0 || place >= text.length() ? NONE : text.charAt(place);
    }

    int pointPlace() {
      return text.indexOf('.');
    }

    int powerTold() {
      return form == SPLIT ? power : NO_POWER;
    }

    int digitsTold() {
      int count = 0;
      for (int place = 0; place < text.length() && text.charAt(place) != 'E'; place++) {
        if (text.charAt(place) >= '0' && text.charAt(place) <= '9') {
          count++;
        }
      }
      return count;
    }

    int hashOfText() {
      int hash = 0;
      for (int place = 0; place < text.length(); place++) {
        hash = 31 * hash + text.charAt(place);
      }
      return hash;
    }
  }

  /** The eight cells of one kind and what is done with them. */
  private static final class Bank {
    final Kind kind;
    final Teller teller;
    final Writer writer;
    final Cell[] cells = new Cell[CELLS];
    int acts;
    int refusals;

    Bank(Kind kind, Teller teller, Writer writer) {
      this.kind = kind;
      this.teller = teller;
      this.writer = writer;
      for (int cell = 0; cell < CELLS; cell++) {
        cells[cell] = new Cell();
      }
    }

    Cell at(int cell) {
      if (cell < 0 || cell >= cells.length) {
        throw new IndexOutOfBoundsException("there is no such cell");
      }
      return cells[cell];
    }

    int becomeQuarters(int cell, int quarters) {
      Cell there = at(cell);
      if (quarters < -kind.quarterLimit || quarters > kind.quarterLimit) {
        throw new IllegalArgumentException("too many quarters");
      }
      return act(there, quarters < 0 ? 1 : 0, kind.bodyOfQuarters(Math.abs(quarters)));
    }

    int becomeMade(int cell, int n, int k) {
      Cell there = at(cell);
      if (n < -kind.madeLimit || n > kind.madeLimit || k < kind.madeLowest || k > kind.madeHighest) {
        throw new IllegalArgumentException("n or k is too far from 0");
      }
      return act(there, n < 0 ? 1 : 0, kind.bodyOfMade(Math.abs(n), k));
    }

    int becomeTen(int cell, int k) {
      Cell there = at(cell);
      if (k < -kind.tenLimit || k > kind.tenLimit) {
        throw new IllegalArgumentException("k is too far from 0");
      }
      return act(there, 0, kind.bodyOfMade(1, k));
    }

    int becomeKnown(int cell, int which) {
      Cell there = at(cell);
      switch (which) {
        case 0:
        case 1:
          return act(there, which, 0);
        case 2:
        case 3:
          return act(there, which - 2, kind.endlessBody());
        case 4:
          return act(there, 0, kind.endlessBody() - 1);
        case 5:
          return act(there, 0, 1);
        default:
          throw new IllegalArgumentException("known are 0 to 5");
      }
    }

    int turnSign(int cell) {
      Cell there = at(cell);
      act(there, 1 - there.sign, there.body);
      return there.sign;
    }

    int copy(int from, int into) {
      Cell source = at(from);
      Cell there = at(into);
      boolean isSame = there.isSame(source.sign, source.body);
      there.becomeLike(source);
      acts++;
      return isSame ? 0 : 1;
    }

    int swap(int one, int other) {
      Cell first = at(one);
      Cell second = at(other);
      cells[one] = second;
      cells[other] = first;
      acts++;
      return first.isSame(second.sign, second.body) ? 0 : 1;
    }

    int becomeSum(int one, int other, int into) {
      Cell first = at(one);
      Cell second = at(other);
      Cell there = at(into);
      int firstCount = countOf(first);
      int secondCount = countOf(second);
      if (firstCount == NO_QUARTER || secondCount == NO_QUARTER) {
        return refuse();
      }
      long sum = (long) firstCount + secondCount;
      if (Math.abs(sum) > kind.quarterLimit) {
        return refuse();
      }
      boolean areZerosBelow = first.isSame(1, 0) && second.isSame(1, 0);
      return act(there, sum < 0 || areZerosBelow ? 1 : 0, kind.bodyOfQuarters(Math.abs(sum)));
    }

    int becomeOfOtherKind(Cell source, Kind sourceKind, Cell there) {
      if (source.body == sourceKind.endlessBody()) {
        return act(there, source.sign, kind.endlessBody());
      }
      long quarters = sourceKind.quartersOf(source.body);
      if (quarters == NONE || quarters > kind.quarterLimit) {
        return refuse();
      }
      return act(there, source.sign, kind.bodyOfQuarters(quarters));
    }

    private int act(Cell there, int sign, long body) {
      acts++;
      if (there.isSame(sign, body)) {
        return 0;
      }
      if (there.body != body) {
        there.body = body;
        teller.tell(kind, there);
      }
      there.sign = sign;
      there.text = writer.textOf(there);
      return 1;
    }

    private int refuse() {
      refusals++;
      return REFUSED;
    }

    int countOf(Cell cell) {
      long quarters = kind.quartersOf(cell.body);
      if (quarters == NONE) {
        return NO_QUARTER;
      }
      return (int) (cell.sign == 1 ? -quarters : quarters);
    }

    String textOf(int cell, int way) {
      Cell there = at(cell);
      if (way < 0 || way >= WAYS) {
        throw new IllegalArgumentException("there is no such way");
      }
      writer.tell(there, there.sign, way);
      return writer.paper.toString();
    }

    String textsOf(int from, int to) {
      at(from);
      at(to);
      StringBuilder joined = new StringBuilder();
      for (int cell = from; cell <= to; cell++) {
        if (cell > from) {
          joined.append(' ');
        }
        joined.append(at(cell).text);
      }
      return joined.toString();
    }

    boolean areSame(int one, int other, int how) {
      Cell first = at(one);
      Cell second = at(other);
      switch (how) {
        case 0:
          return first.isSame(second.sign, second.body);
        case 1:
          return first.text.equals(second.text);
        case 2:
          return first.rank() == second.rank();
        default:
          throw new IllegalArgumentException("ways to compare are 0 to 2");
      }
    }

    int order(int one, int other) {
      return Long.compare(at(one).rank(), at(other).rank());
    }

    boolean areCellsSound() {
      for (int cell = 0; cell < CELLS; cell++) {
        Cell there = at(cell);
        if (!isToldAlike(there) || !isTurnedAlike(there) || !arePartsSound(there)) {
          return false;
        }
      }
      return true;
    }

    private boolean isToldAlike(Cell there) {
      for (int way = 0; way < WAYS; way++) {
        writer.tell(there, there.sign, way);
        if (!writer.isOnPaper(there.text, 0, 0)) {
          return false;
        }
      }
      return true;
    }

    /** Whether the text with the other sign is the same behind its "-", or behind that of this one. */
    private boolean isTurnedAlike(Cell there) {
      writer.tell(there, 1 - there.sign, 0);
      int ahead = minusesAhead(there.text);
      return ahead == there.sign && writer.isOnPaper(there.text, ahead, 1 - ahead);
    }

    /** Whether sign, digits, point and what stands behind "E" make up the whole text, the point and "E" in their places. */
    private boolean arePartsSound(Cell there) {
      int length = there.sign + there.digitsTold();
      if (there.form == ENDLESS) {
        return there.pointPlace() == NONE && there.text.length() == length + 8;
      }
      int point = there.pointPlace();
      if (point <= there.sign || there.codeAt(point) != '.') {
        return false;
      }
      length++;
      if (there.form == PLAIN) {
        return there.text.length() == length;
      }
      return there.codeAt(length) == 'E' && writer.isNumberBehind(there.text, length + 1, there.powerTold());
    }

    boolean arePairsSound() {
      for (int one = 0; one < CELLS; one++) {
        for (int other = one + 1; other < CELLS; other++) {
          if (areSame(one, other, 0) != areSame(one, other, 1)) {
            return false;
          }
        }
      }
      return true;
    }

    long digestOf(int cell, long start) {
      Cell there = at(cell);
      long sum = start * 31 + there.text.length();
      sum = sum * 31 + there.hashOfText();
      sum = sum * 31 + there.form;
      sum = sum * 31 + there.powerTold();
      sum = sum * 31 + there.digitsTold();
      return sum * 31 + countOf(there);
    }

    long digestOfPairs(long start) {
      long sum = start;
      for (int one = 0; one < CELLS; one++) {
        for (int other = one + 1; other < CELLS; other++) {
          sum = sum * 31 + order(one, other);
          sum = sum * 31 + orderOfTexts(at(one).text, at(other).text);
        }
      }
      return sum;
    }
  }

  /** Writes texts on one paper that is used again and again: a run's objects are counted, so a text costs but itself. */
  private static final class Writer {
    private static final int MOST_DIGITS = 20;
    private static final char OTHER_SIGN = '=';

    final StringBuilder paper = new StringBuilder();
    private final int[] row = new int[MOST_DIGITS];
    private int rowLength;

    String textOf(Cell cell) {
      tell(cell, cell.sign, 0);
      return paper.toString();
    }

    /** Leaves the text of the cell's number, with this sign, alone on the paper. */
    void tell(Cell cell, int sign, int way) {
      paper.setLength(0);
      if (way == 3) {
        paper.append(OTHER_SIGN);
      }
      if (sign == 1) {
        paper.append('-');
      }
      layOut(cell.told);
      if (cell.form == ENDLESS) {
        paper.append("Infinity");
      } else if (cell.form == PLAIN) {
        writePlain(cell.power);
      } else {
        writeSplit(cell.power);
      }
      takeAwayOtherSign(way);
    }

    private void takeAwayOtherSign(int way) {
      if (way == 3 && paper.length() > 0) {
        paper.deleteCharAt(0);
      }
      if (way == 4) {
        int length = paper.length();
        paper.append(OTHER_SIGN);
        paper.setLength(length);
      }
    }

    private void layOut(long number) {
      rowLength = 1;
      for (long rest = number; rest > 9 && rowLength < MOST_DIGITS; rest /= 10) {
        rowLength++;
      }
      long rest = number;
      for (int place = rowLength - 1; place >= 0; place--) {
        row[place] = (int) (rest % 10);
        rest /= 10;
      }
    }

    private void writePlain(int power) {
      // without a whole part: the one zero that stands ahead of the row
      writeDigits(Math.min(power, 0), power);
      paper.append('.');
      writeDigits(power + 1, Math.max(power + 1, rowLength - 1));
    }

    private void writeSplit(int power) {
      writeDigits(0, 0);
      paper.append('.');
      writeDigits(1, Math.max(1, rowLength - 1));
      paper.append('E').append(power);
    }

    /** Ahead of the row and behind it stand zeros. */
    private void writeDigits(int first, int last) {
      for (int place = first; place <= last; place++) {
        int digit = place < 0 || place >= rowLength ? 0 : row[place];
        paper.append((char) ('0' + digit));
      }
    }

    /** Whether the text from its start on is what stands on the paper from the paper's start on. */
    boolean isOnPaper(String text, int textStart, int paperStart) {
      int length = text.length() - textStart;
      if (paper.length() - paperStart != length || textStart < 0 || paperStart < 0) {
        return false;
      }
      for (int place = 0; place < length; place++) {
        if (text.charAt(textStart + place) != paper.charAt(paperStart + place)) {
          return false;
        }
      }
      return true;
    }

    boolean isNumberBehind(String text, int start, int number) {
      paper.setLength(0);
      paper.append(number);
      return isOnPaper(text, start, 0);
    }
  }

  /**
   * Finds the decimal that is told of a number above 0. The number is over / under, in units of the place of the
   * digit that comes next; whoever lies less than stepUp / under above it, or stepDown / under below it, rounds to it
   * (if the fraction is even, whoever lies just so far too).
   */
  private static final class Teller {
    /** Seventeen digits tell apart all wide numbers. */
    private static final int MOST_DIGITS = 17;

    private final Whole over = new Whole();
    private final Whole under = new Whole();
    private final Whole stepUp = new Whole();
    private final Whole stepDown = new Whole();
    private final Whole spare = new Whole();
    private long told;
    private int power;

    /** Sets the form of the cell's number and the decimal that is told of it. */
    void tell(Kind kind, Cell cell) {
      told = 0;
      power = 0;
      cell.form = cell.body >= kind.endlessBody() ? ENDLESS : PLAIN;
      if (cell.body > 0 && cell.form != ENDLESS) {
        layOut(kind, cell.body);
        scale(kind.twosOf(cell.body));
        find((cell.body & 1) == 0);
        cell.form = power >= -3 && power < 7 ? PLAIN : SPLIT;
      }
      cell.told = told;
      cell.power = power;
    }

    /** A step to either side is halved, and below a power of two once more, so all is taken four times. */
    private void layOut(Kind kind, long body) {
      long significand = kind.significandOf(body);
      over.become(significand * 4);
      under.become(4);
      stepUp.become(2);
      stepDown.become(kind.isNearerBelow(body) ? 1 : 2);
      power = tensIn(63 - Long.numberOfLeadingZeros(significand) + kind.twosOf(body));
    }

    /** The greatest power of ten in 2^twos: 0.30103 is close enough to the logarithm for |twos| up to 2000. */
    private static int tensIn(int twos) {
      return Math.floorDiv(twos * 30103, 100000);
    }

    /** Puts the first digit, which is 1 to 9, ahead of the point; twos and fives apart keep the numbers short. */
    private void scale(int twos) {
      under.timesFives(power);
      over.timesFives(-power);
      stepUp.timesFives(-power);
      stepDown.timesFives(-power);
      under.timesTwos(power - twos);
      over.timesTwos(twos - power);
      stepUp.timesTwos(twos - power);
      stepDown.timesTwos(twos - power);
      spare.becomeLike(under);
      spare.times(10);
      if (over.compare(spare) >= 0) {
        under.becomeLike(spare);
        power++;
      }
    }

    private void find(boolean isEven) {
      long shown = nextDigit();
      long end = 10;
      for (int length = 2; length <= MOST_DIGITS; length++) {
        goOnePlaceOn();
        shown = shown * 10 + nextDigit();
        end *= 10;
        boolean isShownRight = isShownRight(isEven);
        boolean isNextRight = isNextRight(isEven);
        if (isShownRight || isNextRight) {
          boolean isNextTold = isNextRight && (!isShownRight || isNextNearer(shown));
          shown += isNextTold ? 1 : 0;
          break;
        }
      }
      // rounded up from nothing but nines
      power += shown == end ? 1 : 0;
      told = withoutLastZeros(shown);
    }

    private void goOnePlaceOn() {
      over.times(10);
      stepUp.times(10);
      stepDown.times(10);
    }

    private int nextDigit() {
      int digit = 0;
      while (digit < 9 && over.compare(under) >= 0) {
        over.minus(under);
        digit++;
      }
      return digit;
    }

    /** Whether the digits so far round to the number. */
    private boolean isShownRight(boolean isEven) {
      int order = over.compare(stepDown);
      return isEven ? order <= 0 : order < 0;
    }

    /** Whether the digits so far, one more in the last place, round to the number. */
    private boolean isNextRight(boolean isEven) {
      spare.becomeSum(over, stepUp);
      int order = spare.compare(under);
      return isEven ? order >= 0 : order > 0;
    }

    private boolean isNextNearer(long shown) {
      spare.becomeSum(over, over);
      int order = spare.compare(under);
      return order > 0 || (order == 0 && (shown & 1) == 1);
    }

    private static long withoutLastZeros(long number) {
      long rest = number;
      for (int i = 0; i < MOST_DIGITS && rest % 10 == 0; i++) {
        rest /= 10;
      }
      return rest;
    }
  }

  /** A whole number from 0 on, in limbs of 30 binary digits, the lowest first; no number of a kind needs above 770. */
  private static final class Whole {
    private static final int LIMBS = 32;
    private static final int LIMB_LENGTH = 30;
    private static final int LIMB_MASK = (1 << LIMB_LENGTH) - 1;
    private static final int FIVES_AT_ONCE = 13;
    private static final int THIRTEEN_FIVES = 1220703125;

    private final int[] limbs = new int[LIMBS];
    /** How many limbs count, never above LIMBS; the highest of them is not 0. */
    private int used;

    void become(long value) {
      used = 0;
      for (long rest = value; rest > 0 && used < LIMBS; rest >>= LIMB_LENGTH) {
        limbs[used] = (int) (rest & LIMB_MASK);
        used++;
      }
    }

    void becomeLike(Whole other) {
      used = other.used;
      System.arraycopy(other.limbs, 0, limbs, 0, used);
    }

    /** This one is neither of both. */
    void becomeSum(Whole one, Whole other) {
      used = Math.max(one.used, other.used);
      long carry = 0;
      for (int place = 0; place < used; place++) {
        carry += place < one.used ? one.limbs[place] : 0;
        carry += place < other.used ? other.limbs[place] : 0;
        limbs[place] = (int) (carry & LIMB_MASK);
        carry >>= LIMB_LENGTH;
      }
      if (carry > 0 && used < LIMBS) {
        limbs[used] = (int) carry;
        used++;
      }
    }

    void times(int factor) {
      long carry = 0;
      for (int place = 0; place < used; place++) {
        carry += (long) limbs[place] * factor;
        limbs[place] = (int) (carry & LIMB_MASK);
        carry >>= LIMB_LENGTH;
      }
      for (; carry > 0 && used < LIMBS; carry >>= LIMB_LENGTH) {
        limbs[used] = (int) (carry & LIMB_MASK);
        used++;
      }
    }

    /** A count below 0 stands for none. */
    void timesFives(int count) {
      int left = count;
      for (; left >= FIVES_AT_ONCE; left -= FIVES_AT_ONCE) {
        times(THIRTEEN_FIVES);
      }
      for (; left > 0; left--) {
        times(5);
      }
    }

    /** A count below 0 stands for none. */
    void timesTwos(int count) {
      if (count <= 0) {
        return;
      }
      times(1 << (count % LIMB_LENGTH));
      int shift = Math.min(count / LIMB_LENGTH, LIMBS - used);
      for (int place = used - 1; place >= 0; place--) {
        limbs[place + shift] = limbs[place];
      }
      for (int place = 0; place < shift; place++) {
        limbs[place] = 0;
      }
      used += shift;
    }

    /** The other one is not above this one. */
    void minus(Whole other) {
      long carry = 0;
      for (int place = 0; place < used; place++) {
        carry += limbs[place] - (place < other.used ? other.limbs[place] : 0);
        limbs[place] = (int) (carry & LIMB_MASK);
        carry >>= LIMB_LENGTH;
      }
      while (used > 0 && limbs[used - 1] == 0) {
        used--;
      }
    }

    int compare(Whole other) {
      if (used != other.used) {
        return used < other.used ? -1 : 1;
      }
      for (int place = used - 1; place >= 0; place--) {
        if (limbs[place] != other.limbs[place]) {
          return limbs[place] < other.limbs[place] ? -1 : 1;
        }
      }
      return 0;
    }
  }
}
