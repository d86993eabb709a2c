/** The term CLASS, and what rows are, at their edges. */
public final class EdgesOfClasses {
  private static final int MOST = 2147483647;
  private static final Desk d = new Desk();

  public static void main(String[] args) {
    logic();
    integer();
    rows();
    enumerations();
    eachItsOwn();
    weights();
    clear();
    d.end();
  }

  /** "LOGIC (0 .. 8)" */
  private static void logic() {
    d.fresh();
    for (int sign = 0; sign <= 8; sign++) {
      d.is("sign " + sign, d.node(3, sign), TypeBook.LOGIC, sign);
    }
    for (int sign : new int[] {-1, 9, Integer.MIN_VALUE, MOST}) {
      d.fault("sign " + sign, d.node(3, sign), 11);
    }
  }

  /** "INTEGER (-2147483647 .. 2147483647)" */
  private static void integer() {
    d.fresh();
    d.is("greatest", d.number(MOST), TypeBook.INTEGER, MOST);
    d.is("least", d.unary(1, d.number(MOST)), TypeBook.INTEGER, -MOST);
    d.is("size of the least", d.unary(3, d.number(-MOST)), TypeBook.INTEGER, MOST);
    d.is("minus the least", d.unary(1, d.number(-MOST)), TypeBook.INTEGER, MOST);
    d.is("plus the least", d.unary(2, d.number(-MOST)), TypeBook.INTEGER, -MOST);
    d.is("minus 0", d.unary(1, d.number(0)), TypeBook.INTEGER, 0);
    d.fault("one more than the greatest", d.binary(Desk.SUM, d.number(MOST), d.number(1)), 9);
    d.fault("one less than the least", d.binary(Desk.DIFFERENCE, d.number(-MOST), d.number(1)), 9);
  }

  /** "a ROW of n elements of LOGIC (1 .. 64)" */
  private static void rows() {
    for (int length : new int[] {1, 2, 15, 16, 17, 31, 32, 33, 47, 48, 49, 63, 64}) {
      d.fresh();
      String signs = "UX01ZWLH-".repeat(8).substring(0, length);
      d.isRow("a row of " + length, d.row(signs), signs);
      d.constant(100, d.rowUp(0, length - 1), d.row(signs));
      d.isRow("a constant of " + length, d.name(100), signs);
      d.is("its last element", d.apply(100, d.number(length - 1)), TypeBook.LOGIC,
          "UX01ZWLH-".indexOf(signs.charAt(length - 1)));
    }
    d.fresh();
    d.fault("none", d.node(4, 0), 11);
    d.fault("65", d.row("1".repeat(65)), 11);
    d.fault("128", d.row("1".repeat(128)), 11);
  }

  /** "an ENUMERATION (each its own; values by their places, 0 ..)" */
  private static void enumerations() {
    d.fresh();
    int[] places = new int[64];
    for (int i = 0; i < places.length; i++) {
      places[i] = 200 + i;
    }
    int type = d.enumeration(199, places);
    for (int i = 0; i < places.length; i++) {
      int node = d.name(places[i]);
      d.book.check(node, type);
      d.due("place " + i, d.book.value(node, 0), i);
    }
  }

  private static void eachItsOwn() {
    d.fresh();
    int first = d.enumeration(110, 111);
    d.book.declare(Desk.SIGNAL, 100, first, 0);
    d.book.enter();
    int second = d.enumeration(110, 111);
    d.book.declare(Desk.SIGNAL, 101, second, 0);
    d.fault("made alike, but others", d.binary(Desk.SAME, d.name(100), d.name(101)), 3);
    d.fault("compared", d.binary(Desk.LESS, d.name(100), d.name(111)), 3);
    d.due("its own", d.book.check(d.binary(Desk.SAME, d.name(101), d.name(111)), TypeBook.NONE), 0);
    d.book.subtype(120, first);
    d.book.declare(Desk.VARIABLE, 102, d.book.type(d.node(10, 120)), 0);
    d.due("by another name it is the same", d.book.check(d.binary(Desk.SAME, d.name(100), d.name(102)), TypeBook.NONE),
        0);
  }

  /** "the n-th from the right, from 0 on, has the weight 2^n"; ONEs and Hs count. */
  private static void weights() {
    for (int n = 0; n <= 30; n++) {
      d.fresh();
      String row = "0".repeat(30 - n) + "1" + "L".repeat(n);
      d.is("weight of " + n, d.apply(Desk.NUMBER, d.row(row)), TypeBook.INTEGER, 1 << n);
      d.is("by H", d.apply(Desk.NUMBER, d.row(row.replace('1', 'H'))), TypeBook.INTEGER, 1 << n);
    }
    for (int n = 1; n <= 63; n++) {
      d.fresh();
      int more = d.row("0".repeat(63 - n) + "1" + "0".repeat(n));
      int less = d.row("0".repeat(64 - n) + "1".repeat(n));
      d.is("2^" + n + " is more", d.binary(Desk.MORE, more, less), TypeBook.TRUTH, 1);
      d.fresh();
      int one = d.row("0".repeat(63) + "1");
      d.isRow("by one", d.binary(Desk.SUM, d.row("0".repeat(64 - n) + "1".repeat(n)), one),
          "0".repeat(63 - n) + "1" + "0".repeat(n));
    }
  }

  /** "A row is CLEAR when all elements are ZERO, ONE, L, H": each other sign in each end makes it not so. */
  private static void clear() {
    for (int sign = 0; sign <= 8; sign++) {
      boolean clear = sign == 2 || sign == 3 || sign == 6 || sign == 7;
      int high = sign == 3 || sign == 7 ? 1 : 0;
      d.fresh();
      String left = "UX01ZWLH-".charAt(sign) + "00";
      String right = "00" + "UX01ZWLH-".charAt(sign);
      if (clear) {
        d.is("left " + sign, d.apply(Desk.NUMBER, d.row(left)), TypeBook.INTEGER, 4 * high);
        d.is("right " + sign, d.apply(Desk.NUMBER, d.row(right)), TypeBook.INTEGER, high);
      } else {
        d.fault("left " + sign, d.apply(Desk.NUMBER, d.row(left)), 9);
        d.fault("right " + sign, d.apply(Desk.NUMBER, d.row(right)), 9);
      }
      String wide = "0".repeat(61);
      d.is("64, left", d.binary(Desk.NOT_MORE, d.row(wide + "000"), d.row(left + wide)), TypeBook.TRUTH, clear ? 1 : 0);
      d.is("64, right", d.binary(Desk.NOT_LESS, d.row(wide + right), d.row(wide + "000")), TypeBook.TRUTH,
          clear ? 1 : 0);
    }
  }
}
