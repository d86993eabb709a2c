/** The calls that README.md shows, with the answers that it tells. */
public final class ReadmeUse {
  private static final Desk d = new Desk();
  private static final TypeBook book = d.book;
  private static int type;
  private static int minus;

  public static void main(String[] args) {
    expression();
    fault();
    constant();
    enumeration();
    d.end();
  }

  private static void expression() {
    book.add(2, 7, 0);
    book.add(2, 0, 0);
    int bounds = book.add(13, 5, 2);
    type = book.type(bounds);
    d.due("a type", type, 5);
    d.due("a signal", book.declare(1, 100, type, 0), 0);
    book.add(1, 100, 0);
    book.add(2, 3, 0);
    int sum = book.add(21, 12, 2);
    d.due("right", book.check(sum, type), 0);
    d.due("a row", book.about(sum, 0), TypeBook.ROW);
    d.due("its length", book.about(sum, 1), 8);
    d.due("not constant", book.about(sum, 2), 0);
  }

  private static void fault() {
    int unknown = book.add(1, 101, 0);
    minus = book.add(20, 1, 1);
    d.due("means nothing", book.check(minus, TypeBook.NONE), -1);
    d.due("its node", book.place(), unknown);
  }

  private static void constant() {
    book.enter();
    int six = book.add(2, 6, 0);
    d.due("a constant", book.declare(0, 101, 2, six), 1);
    d.due("right in the scope", book.check(minus, TypeBook.NONE), 0);
    d.due("its value", book.value(minus, 0), -6);
    book.leave();
    d.due("gone with the scope", book.check(minus, TypeBook.NONE), -1);
  }

  private static void enumeration() {
    book.add(1, 111, 0);
    book.add(1, 112, 0);
    int colors = book.enumeration(book.add(53, 110, 2));
    int last = book.add(1, 112, 0);
    d.due("of its type", book.check(last, colors), 0);
    d.due("its place", book.value(last, 0), 1);
    d.due("one more name", book.subtype(113, colors), 0);
    d.due("how many", book.typeOf(book.type(book.add(10, 113, 0)), 3), 2);
  }
}
