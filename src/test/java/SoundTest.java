import java.lang.reflect.Field;

/**
 * isSound() answers false where something is not so. No call leads there, so this test reaches behind the face, and goes
 * with the class's inside.
 */
public final class SoundTest extends Checks {
  public static void main(String[] args) throws Exception {
    for (Side side : Side.values()) {
      for (int cell = 0; cell < 8; cell++) {
        untouched(side, cell);
        waysTellOther(side, cell);
        textWithoutItsSign(side, cell);
        otherForm(side, cell);
        pairs(side, cell);
      }
    }
    digestTells();
    end();
  }

  private static Object read(Object from, String name) throws Exception {
    Field field = from.getClass().getDeclaredField(name);
    field.setAccessible(true);
    return field.get(from);
  }

  private static void write(Object into, String name, Object value) throws Exception {
    Field field = into.getClass().getDeclaredField(name);
    field.setAccessible(true);
    field.set(into, value);
  }

  private static Object cellOf(Shortdecimals x, Side side, int cell) throws Exception {
    return ((Object[]) read(read(x, side.isWide ? "wides" : "narrows"), "cells"))[cell];
  }

  private static void untouched(Side side, int cell) throws Exception {
    sentence(56, "Returns whether all of this is so");
    Shortdecimals x = filled();
    Object there = cellOf(x, side, cell);
    for (String name : new String[] {"sign", "body", "told", "power", "form", "text"}) {
      write(there, name, read(there, name));
    }
    due(side + " " + cell + " untouched", x.isSound(), true);
  }

  private static void waysTellOther(Side side, int cell) throws Exception {
    sentence(56, "the WAYS tell the same of each one");
    String text = side.text(filled(), cell);
    String[] others = {"", text + "0", text.substring(1), text.substring(0, text.length() - 1) + "?", "?" + text.substring(1),
      text.replace('.', ','), text + " "};
    for (String other : others) {
      if (!other.equals(text)) {
        Shortdecimals x = filled();
        write(cellOf(x, side, cell), "text", other);
        due(side + " " + text + " with the text " + other, x.isSound(), false);
      }
    }
  }

  private static void textWithoutItsSign(Side side, int cell) throws Exception {
    sentence(56, "the TEXT with the other SIGN is the same but for \"-\"");
    Shortdecimals x = filled();
    Object there = cellOf(x, side, cell);
    write(there, "sign", 1 - (Integer) read(there, "sign"));
    due(side + " " + side.text(filled(), cell) + " with the other SIGN alone", x.isSound(), false);
  }

  private static void otherForm(Side side, int cell) throws Exception {
    sentence(56, "places, lengths and digits that are told are those of the TEXTS.");
    int form = side.form(filled(), cell);
    for (int other = 0; other < 3; other++) {
      if (other != form) {
        Shortdecimals x = filled();
        write(cellOf(x, side, cell), "form", other);
        due(side + " " + side.text(filled(), cell) + " with the form " + other, x.isSound(), false);
      }
    }
    if (form == 1) {
      Shortdecimals x = filled();
      Object there = cellOf(x, side, cell);
      write(there, "power", (Integer) read(there, "power") + 1);
      due(side + " " + side.text(filled(), cell) + " with another power", x.isSound(), false);
    }
  }

  private static void pairs(Side side, int cell) throws Exception {
    sentence(56, "of each two of one kind the TEXTS are the same just if they are SAME");
    for (int other = 0; other < 8; other++) {
      if (other != cell) {
        Shortdecimals x = filled();
        side.copy(x, other, cell);
        due(side + " " + cell + " SAME as " + other, x.isSound(), true);
        Object there = cellOf(x, side, cell);
        write(there, "body", (Long) read(there, "body") ^ 2);
        due(side + " " + cell + " with the text of " + other + " alone", x.isSound(), false);
      }
    }
  }

  private static void digestTells() throws Exception {
    sentence(57, "1 if isSound(), otherwise 0.");
    Shortdecimals sound = filled();
    Shortdecimals unsound = filled();
    // once the text is written, only isSound() looks at what is told here
    write(cellOf(unsound, Side.WIDE, 0), "told", 126L);
    due("isSound() of the one", sound.isSound(), true);
    due("isSound() of the other", unsound.isSound(), false);
    due("what digest() of the one is above that of the other", sound.digest() - unsound.digest(), 1L);
  }
}
