/** Promise 12, at its edges. */
public final class Edges12TypeOf {
  private static final int MOST = 2147483647;
  private static final Desk d = new Desk();
  private static final Refusals refusals = new Refusals(d);

  public static void main(String[] args) {
    types();
    parts();
    leastOfAll();
    d.end();
  }

  private static void parts(String what, int type, int... parts) {
    for (int i = 0; i < parts.length; i++) {
      d.due(what + " part " + i, d.book.typeOf(type, i), parts[i]);
    }
  }

  /** "IndexOutOfBoundsException": there is no such type. */
  private static void types() {
    d.fresh();
    d.due("the first", d.book.typeOf(0, 0), TypeBook.LOGIC);
    d.index("not made yet", () -> d.book.typeOf(5, 0));
    int last = d.rowDown(1, 0);
    d.due("the last", d.book.typeOf(last, 0), TypeBook.ROW);
    d.index("behind the last", () -> d.book.typeOf(last + 1, 0));
    for (int type : new int[] {-1, Refusals.NO_TYPE, Integer.MIN_VALUE, MOST}) {
      refusals.index("type " + type, () -> d.book.typeOf(type, 0));
    }
  }

  /** "IndexOutOfBoundsException (also for another what)" */
  private static void parts() {
    for (int what : new int[] {-1, 5, Integer.MIN_VALUE, MOST}) {
      for (int type = 0; type < Refusals.NO_TYPE; type++) {
        int of = type;
        refusals.index("type " + type + " part " + what, () -> d.book.typeOf(of, what));
      }
    }
  }

  /** Each part "0 for others", and the least and greatest that each can be. */
  private static void leastOfAll() {
    d.fresh();
    parts("LOGIC", 0, TypeBook.LOGIC, 0, 0, 0, 0);
    parts("TRUTH", 1, TypeBook.TRUTH, 0, 0, 0, 0);
    parts("all INTEGERs", 2, TypeBook.INTEGER, -MOST, MOST, 0, 0);
    parts("from 0 on", 3, TypeBook.INTEGER, 0, MOST, 0, 0);
    parts("from 1 on", 4, TypeBook.INTEGER, 1, MOST, 0, 0);
    parts("one INTEGER", d.range(-MOST, -MOST), TypeBook.INTEGER, -MOST, -MOST, 0, 0);
    parts("a row of one, up", d.rowUp(0, 0), TypeBook.ROW, 0, 0, 1, 0);
    parts("a row of one, down", d.rowDown(0, 0), TypeBook.ROW, 0, 0, 1, 1);
    parts("64 up", d.rowUp(MOST - 63, MOST), TypeBook.ROW, MOST - 63, MOST, 64, 0);
    parts("64 down", d.rowDown(MOST, MOST - 63), TypeBook.ROW, MOST, MOST - 63, 64, 1);
    parts("one place", d.enumeration(110, 111), TypeBook.ENUMERATION, 0, 0, 1, 0);
    d.fresh();
    int[] places = new int[64];
    for (int i = 0; i < places.length; i++) {
      places[i] = 200 + i;
    }
    parts("64 places", d.enumeration(110, places), TypeBook.ENUMERATION, 0, 63, 64, 0);
  }
}
