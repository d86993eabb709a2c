/** typeOf(): the parts of types. */
public final class Promise12TypeOf {
  private static final Desk d = new Desk();

  private static void parts(String what, int type, int... parts) {
    for (int i = 0; i < parts.length; i++) {
      d.due(what + " part " + i, d.book.typeOf(type, i), parts[i]);
    }
  }

  public static void main(String[] args) {
    parts("logic", 0, TypeBook.LOGIC, 0, 0, 0, 0);
    parts("truth", 1, TypeBook.TRUTH, 0, 0, 0, 0);
    parts("integers", 2, TypeBook.INTEGER, -2147483647, 2147483647, 0, 0);
    parts("range", d.range(-7, -2), TypeBook.INTEGER, -7, -2, 0, 0);
    parts("up", d.rowUp(3, 10), TypeBook.ROW, 3, 10, 8, 0);
    parts("down", d.rowDown(10, 3), TypeBook.ROW, 10, 3, 8, 1);
    parts("enumeration", d.enumeration(110, 111, 112, 113), TypeBook.ENUMERATION, 0, 2, 3, 0);
    d.due("constants", TypeBook.NONE * 100000 + TypeBook.LOGIC * 10000 + TypeBook.TRUTH * 1000
        + TypeBook.INTEGER * 100 + TypeBook.ROW * 10 + TypeBook.ENUMERATION, -98766);
    d.index("type below", () -> d.book.typeOf(-1, 0));
    d.index("type above", () -> d.book.typeOf(9, 0));
    d.index("part below", () -> d.book.typeOf(0, -1));
    d.index("part above", () -> d.book.typeOf(0, 5));
    d.end();
  }
}
