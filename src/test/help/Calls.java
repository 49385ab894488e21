import java.util.ArrayList;
import java.util.List;

/** All calls of the face that name a cell: by each of the cells that they name, and by all else that they take. */
final class Calls {
  /** A call by one of its cells; all else that it takes is as the list says. */
  static final class OfCell {
    final int promise;
    final String name;
    final On on;

    OfCell(int promise, String name, On on) {
      this.promise = promise;
      this.name = "promise " + promise + ": " + name;
      this.on = on;
    }
  }

  interface On {
    Object call(Shortdecimals x, int cell);
  }

  private final List<OfCell> calls = new ArrayList<>();

  private Calls() {
  }

  /** Each cell of each call; all else that it takes is right. */
  static List<OfCell> withOneCell() {
    Calls all = new Calls();
    for (Side side : Side.values()) {
      all.actsOf(side);
      all.textsOf(side);
      all.pairsOf(side);
    }
    all.bits();
    all.betweenKinds();
    return all.calls;
  }

  /** Each call that takes something beside its cells: that is just too small or just too great. */
  static List<OfCell> withAWrongRest() {
    Calls all = new Calls();
    for (Side side : Side.values()) {
      all.wrongRestOf(side, -1);
      all.wrongRestOf(side, 1);
    }
    return all.calls;
  }

  /** Each call that is refused on a filled object, by the cell that it changes. */
  static List<OfCell> refused() {
    Calls all = new Calls();
    for (Side side : Side.values()) {
      for (int noQuarter = 1; noQuarter < 6; noQuarter++) {
        int cell = noQuarter;
        all.add(side, 9, "sum of no QUARTER " + cell + " and one", (x, into) -> side.sum(x, cell, 0, into));
        all.add(side, 9, "sum of a QUARTER and none " + cell, (x, into) -> side.sum(x, 6, cell, into));
        all.add(side, 9, "sum of twice no QUARTER " + cell, (x, into) -> side.sum(x, cell, cell, into));
      }
    }
    for (int noQuarter : new int[] {1, 2, 4, 5}) {
      all.calls.add(new OfCell(49, "narrowed of " + noQuarter, (x, narrow) -> x.narrowed(noQuarter, narrow)));
      all.calls.add(new OfCell(50, "widened of " + noQuarter, (x, wide) -> x.widened(noQuarter, wide)));
    }
    return all.calls;
  }

  private void add(Side side, int promise, String name, On on) {
    calls.add(new OfCell(promise + side.more, name, on));
  }

  private void actsOf(Side side) {
    add(side, 2, "quarters", (x, cell) -> side.quarters(x, cell, 1));
    add(side, 3, "made", (x, cell) -> side.made(x, cell, 1, -1));
    add(side, 4, "ten", (x, cell) -> side.ten(x, cell, 1));
    add(side, 5, "known", (x, cell) -> side.known(x, cell, 1));
    add(side, 6, "minus", (x, cell) -> side.minus(x, cell));
    add(side, 7, "copy from", (x, cell) -> side.copy(x, cell, 1));
    add(side, 7, "copy into", (x, cell) -> side.copy(x, 1, cell));
    add(side, 8, "swap one", (x, cell) -> side.swap(x, cell, 1));
    add(side, 8, "swap other", (x, cell) -> side.swap(x, 1, cell));
    add(side, 9, "sum of one", (x, cell) -> side.sum(x, cell, 6, 6));
    add(side, 9, "sum of the other", (x, cell) -> side.sum(x, 6, cell, 6));
    add(side, 9, "sum into", (x, cell) -> side.sum(x, 6, 6, cell));
  }

  private void textsOf(Side side) {
    add(side, 10, "text", (x, cell) -> side.text(x, cell, 1));
    add(side, 11, "length", (x, cell) -> side.length(x, cell));
    add(side, 12, "sign", (x, cell) -> side.sign(x, cell, 0));
    add(side, 12, "sign nowhere", (x, cell) -> side.sign(x, cell, -1));
    add(side, 13, "point", (x, cell) -> side.point(x, cell));
    add(side, 14, "power", (x, cell) -> side.power(x, cell));
    add(side, 15, "digits", (x, cell) -> side.digits(x, cell));
    add(side, 16, "form", (x, cell) -> side.form(x, cell));
    add(side, 21, "hash", (x, cell) -> side.hash(x, cell));
    add(side, 23, "count", (x, cell) -> side.count(x, cell));
  }

  private void pairsOf(Side side) {
    for (int each = 0; each < 3; each++) {
      int how = each;
      add(side, 17, "same, the one, by " + how, (x, cell) -> side.same(x, cell, 1, how));
      add(side, 17, "same, the other, by " + how, (x, cell) -> side.same(x, 1, cell, how));
    }
    add(side, 18, "order, the one", (x, cell) -> side.order(x, cell, 1));
    add(side, 18, "order, the other", (x, cell) -> side.order(x, 1, cell));
    add(side, 19, "order of texts, the one", (x, cell) -> side.textOrder(x, cell, 1));
    add(side, 19, "order of texts, the other", (x, cell) -> side.textOrder(x, 1, cell));
    add(side, 20, "like, the one", (x, cell) -> side.like(x, cell, 1));
    add(side, 20, "like, the other", (x, cell) -> side.like(x, 1, cell));
    add(side, 22, "texts from, up to the last", (x, cell) -> side.texts(x, cell, 7));
    add(side, 22, "texts from, up to the first", (x, cell) -> side.texts(x, cell, 0));
    add(side, 22, "texts to, from the first on", (x, cell) -> side.texts(x, 0, cell));
    add(side, 22, "texts to, from the last on", (x, cell) -> side.texts(x, 7, cell));
  }

  private void bits() {
    calls.add(new OfCell(24, "upper", (x, cell) -> x.upper(cell)));
    calls.add(new OfCell(25, "lower", (x, cell) -> x.lower(cell)));
    calls.add(new OfCell(48, "digits", (x, cell) -> x.digits(cell)));
  }

  private void betweenKinds() {
    calls.add(new OfCell(49, "narrowed, the wide one", (x, cell) -> x.narrowed(cell, 1)));
    calls.add(new OfCell(49, "narrowed, the narrow one", (x, cell) -> x.narrowed(6, cell)));
    calls.add(new OfCell(50, "widened, the narrow one", (x, cell) -> x.widened(cell, 1)));
    calls.add(new OfCell(50, "widened, the wide one", (x, cell) -> x.widened(6, cell)));
    calls.add(new OfCell(51, "alike, the wide one", (x, cell) -> x.areAlike(cell, 1)));
    calls.add(new OfCell(51, "alike, the narrow one", (x, cell) -> x.areAlike(1, cell)));
    calls.add(new OfCell(52, "order of both, the wide one", (x, cell) -> x.textOrder(cell, 1)));
    calls.add(new OfCell(52, "order of both, the narrow one", (x, cell) -> x.textOrder(1, cell)));
    for (boolean isWideFirst : new boolean[] {false, true}) {
      calls.add(new OfCell(53, "both, the wide one", (x, cell) -> x.both(cell, 1, isWideFirst)));
      calls.add(new OfCell(53, "both, the narrow one", (x, cell) -> x.both(1, cell, isWideFirst)));
    }
  }

  /** One step beyond all limits: below the least for a step of -1, above the greatest for one of 1. */
  private void wrongRestOf(Side side, int step) {
    boolean isBelow = step < 0;
    int n = (side.madeLimit + 1) * step;
    int k = isBelow ? side.madeLowest - 1 : side.madeHighest + 1;
    add(side, 2, "quarters " + (side.limit + 1) * step, (x, cell) -> side.quarters(x, cell, (side.limit + 1) * step));
    add(side, 3, "made of n " + n, (x, cell) -> side.made(x, cell, n, 0));
    add(side, 3, "made of k " + k, (x, cell) -> side.made(x, cell, 1, k));
    add(side, 3, "made of 0 and k " + k, (x, cell) -> side.made(x, cell, 0, k));
    add(side, 3, "made of n " + n + " and k " + k, (x, cell) -> side.made(x, cell, n, k));
    add(side, 4, "ten " + (side.tenLimit + 1) * step, (x, cell) -> side.ten(x, cell, (side.tenLimit + 1) * step));
    int which = isBelow ? -1 : 6;
    add(side, 5, "known " + which, (x, cell) -> side.known(x, cell, which));
    int way = isBelow ? -1 : 5;
    add(side, 10, "text by way " + way, (x, cell) -> side.text(x, cell, way));
    int how = isBelow ? -1 : 3;
    add(side, 17, "same, the one, by " + how, (x, cell) -> side.same(x, cell, 1, how));
    add(side, 17, "same, the other, by " + how, (x, cell) -> side.same(x, 1, cell, how));
  }
}
