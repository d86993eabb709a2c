/** value(): of constants that have been looked at. */
public final class Promise14Value {
  public static void main(String[] args) {
    Desk d = new Desk();
    int row = d.row("UX01ZWLH-");
    d.state("not looked at", () -> d.book.value(row, 0));
    d.book.check(row, TypeBook.NONE);
    for (int k = 0; k < 9; k++) {
      d.due("element " + k, d.book.value(row, k), 8 - k);
    }
    d.index("element below", () -> d.book.value(row, -1));
    d.index("element above", () -> d.book.value(row, 9));
    d.due("a sign of it", d.book.value(row - 1, 0), 8);
    d.is("integer", d.number(-2147483647), TypeBook.INTEGER, -2147483647);
    d.is("greatest", d.number(2147483647), TypeBook.INTEGER, 2147483647);
    d.is("truth", d.name(Desk.TRUE), TypeBook.TRUTH, 1);
    d.is("truth", d.name(Desk.FALSE), TypeBook.TRUTH, 0);
    d.enumeration(110, 111, 112);
    d.is("place", d.name(112), TypeBook.ENUMERATION, 1);
    int number = d.number(5);
    d.book.check(number, TypeBook.NONE);
    d.due("k does not count", d.book.value(number, 99), 5);
    d.due("k does not count", d.book.value(number, -99), 5);
    d.book.declare(Desk.SIGNAL, 100, Desk.INTEGERS, 0);
    int signal = d.name(100);
    d.book.check(signal, TypeBook.NONE);
    d.state("not constant", () -> d.book.value(signal, 0));
    int wide = d.row("1".repeat(63) + "H");
    d.book.check(wide, TypeBook.NONE);
    d.due("the first of 64", d.book.value(wide, 0), 7);
    d.due("the last of 64", d.book.value(wide, 63), 3);
    d.index("no 65th", () -> d.book.value(wide, 64));
    d.index("node below", () -> d.book.value(-1, 0));
    d.index("node above", () -> d.book.value(5000, 0));
    d.end();
  }
}
