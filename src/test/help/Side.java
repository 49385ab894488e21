/** The methods of a kind under one name. */
enum Side {
  WIDE, NARROW;

  final boolean isWide = ordinal() == 0;
  final int more = isWide ? 0 : 24;
  final int limit = isWide ? 1000000000 : 400000;
  final int madeLimit = isWide ? 999999999 : 999999;
  final int madeLowest = isWide ? -9 : -6;
  final int madeHighest = isWide ? 6 : 3;
  final int tenLimit = isWide ? 22 : 10;

  int quarters(Shortdecimals x, int cell, int quarters) {
    return isWide ? x.wideQuarters(cell, quarters) : x.narrowQuarters(cell, quarters);
  }

  int made(Shortdecimals x, int cell, int n, int k) {
    return isWide ? x.wideMade(cell, n, k) : x.narrowMade(cell, n, k);
  }

  int ten(Shortdecimals x, int cell, int k) {
    return isWide ? x.wideTen(cell, k) : x.narrowTen(cell, k);
  }

  int known(Shortdecimals x, int cell, int which) {
    return isWide ? x.wideKnown(cell, which) : x.narrowKnown(cell, which);
  }

  int minus(Shortdecimals x, int cell) {
    return isWide ? x.wideMinus(cell) : x.narrowMinus(cell);
  }

  int copy(Shortdecimals x, int from, int into) {
    return isWide ? x.wideCopy(from, into) : x.narrowCopy(from, into);
  }

  int swap(Shortdecimals x, int one, int other) {
    return isWide ? x.wideSwap(one, other) : x.narrowSwap(one, other);
  }

  int sum(Shortdecimals x, int one, int other, int into) {
    return isWide ? x.wideSum(one, other, into) : x.narrowSum(one, other, into);
  }

  String text(Shortdecimals x, int cell, int way) {
    return isWide ? x.wideText(cell, way) : x.narrowText(cell, way);
  }

  String text(Shortdecimals x, int cell) {
    return text(x, cell, 0);
  }

  int length(Shortdecimals x, int cell) {
    return isWide ? x.wideLength(cell) : x.narrowLength(cell);
  }

  int sign(Shortdecimals x, int cell, int place) {
    return isWide ? x.wideSign(cell, place) : x.narrowSign(cell, place);
  }

  int point(Shortdecimals x, int cell) {
    return isWide ? x.widePoint(cell) : x.narrowPoint(cell);
  }

  int power(Shortdecimals x, int cell) {
    return isWide ? x.widePower(cell) : x.narrowPower(cell);
  }

  int digits(Shortdecimals x, int cell) {
    return isWide ? x.wideDigits(cell) : x.narrowDigits(cell);
  }

  int form(Shortdecimals x, int cell) {
    return isWide ? x.wideForm(cell) : x.narrowForm(cell);
  }

  boolean same(Shortdecimals x, int one, int other, int how) {
    return isWide ? x.wideSame(one, other, how) : x.narrowSame(one, other, how);
  }

  int order(Shortdecimals x, int one, int other) {
    return isWide ? x.wideOrder(one, other) : x.narrowOrder(one, other);
  }

  int textOrder(Shortdecimals x, int one, int other) {
    return isWide ? x.wideTextOrder(one, other) : x.narrowTextOrder(one, other);
  }

  boolean like(Shortdecimals x, int one, int other) {
    return isWide ? x.wideLike(one, other) : x.narrowLike(one, other);
  }

  int hash(Shortdecimals x, int cell) {
    return isWide ? x.wideHash(cell) : x.narrowHash(cell);
  }

  String texts(Shortdecimals x, int from, int to) {
    return isWide ? x.wideTexts(from, to) : x.narrowTexts(from, to);
  }

  int count(Shortdecimals x, int cell) {
    return isWide ? x.wideCount(cell) : x.narrowCount(cell);
  }

  int acts(Shortdecimals x) {
    return x.house(isWide ? 0 : 1);
  }

  int actsOfOther(Shortdecimals x) {
    return x.house(isWide ? 1 : 0);
  }

  /** All digits of a cell, in sixteens. */
  String bits(Shortdecimals x, int cell) {
    return isWide ? String.format("%08x%08x", x.upper(cell), x.lower(cell)) : String.format("%08x", x.digits(cell));
  }

  /** That of the two that belongs to this kind. */
  <T> T of(T wide, T narrow) {
    return isWide ? wide : narrow;
  }
}
