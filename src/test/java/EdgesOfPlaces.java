/** The term EXPRESSIONS, at its edges: APPLY, SLICE and ATTRIBUTE. */
public final class EdgesOfPlaces {
  private static final int MOST = 2147483647;
  private static final String SIGNS = "UX01ZWLH-";
  private static final Desk d = new Desk();
  private static final int FIXED = 100, SIGNAL = 101, VARIABLE = 102, COUNT = 103, BIT = 104, FLAG = 105, ZERO = 106,
      COLORS = 110, RED = 111, NAMED = 112;
  /** The bounds of the rows that are tried: left, right. */
  private static final int[][] BOUNDS = {{3, 0}, {0, 3}, {9, 6}, {2, 5}, {63, 0}, {0, 63}, {0, 0}, {7, 7},
      {MOST, MOST - 2}, {MOST - 63, MOST}, {MOST, MOST}};

  public static void main(String[] args) {
    for (int[] bounds : BOUNDS) {
      elements(bounds[0], bounds[1], bounds[0] > bounds[1]);
      slices(bounds[0], bounds[1], bounds[0] > bounds[1]);
    }
    elements(4, 4, true);
    slices(4, 4, true);
    placesThatAreNotConstant();
    whatIsNoRow();
    numbersOfArguments();
    edges();
    numberOf();
    bits();
    slicesOfWhat();
    attributes();
    attributesOfWhat();
    boundsByAttributes();
    d.end();
  }

  private static void begin(int left, int right, boolean down) {
    d.fresh();
    int type = down ? d.rowDown(left, right) : d.rowUp(left, right);
    int length = d.book.typeOf(type, 3);
    d.constant(FIXED, type, d.row(SIGNS.repeat(8).substring(0, length)));
    d.book.declare(Desk.SIGNAL, SIGNAL, type, 0);
    d.book.declare(Desk.VARIABLE, VARIABLE, type, 0);
  }

  private static void beginSmall() {
    begin(3, 0, true);
    d.book.declare(Desk.SIGNAL, COUNT, Desk.INTEGERS, 0);
    d.book.declare(Desk.SIGNAL, BIT, Desk.LOGIC, 0);
    d.book.declare(Desk.SIGNAL, FLAG, Desk.TRUTH, 0);
    d.constant(ZERO, Desk.INTEGERS, d.number(0));
    d.enumeration(COLORS, RED);
    d.book.subtype(NAMED, 5);
  }

  /** "one INTEGER: LOGIC, that element (6 for a constant one that is not within its bounds)" */
  private static void elements(int left, int right, boolean down) {
    begin(left, right, down);
    int step = down ? -1 : 1;
    int length = Math.abs(left - right) + 1;
    String what = left + " to " + right + ": ";
    for (int place : new int[] {0, length / 2, length - 1}) {
      int at = left + step * place;
      d.is(what + at, d.apply(FIXED, d.number(at)), TypeBook.LOGIC, place % 9);
      d.looks(what + at + " of a signal", d.apply(SIGNAL, d.number(at)), TypeBook.LOGIC, 0, 0, 1);
      d.looks(what + at + " of a variable", d.apply(VARIABLE, d.number(at)), TypeBook.LOGIC, 0, 0, 2);
    }
    int low = Math.min(left, right);
    int high = Math.max(left, right);
    for (int name = FIXED; name <= VARIABLE; name++) {
      d.fault(what + "one below", d.apply(name, d.number(low - 1)), 6);
      d.fault(what + "the least", d.apply(name, d.number(-MOST)), 6);
      if (high < MOST) {
        d.fault(what + "one above", d.apply(name, d.number(high + 1)), 6);
        d.fault(what + "the greatest", d.apply(name, d.number(MOST)), 6);
      }
    }
  }

  private static int slice(boolean down, int name, int from, int to) {
    return d.node(down ? 24 : 23, name, d.number(from), d.number(to));
  }

  /** "whose bounds go that way" and "6 if its bounds go the other way, if there is no element, or one is beyond" */
  private static void slices(int left, int right, boolean down) {
    begin(left, right, down);
    int step = down ? -1 : 1;
    int length = Math.abs(left - right) + 1;
    String signs = SIGNS.repeat(8).substring(0, length);
    String what = left + " to " + right + ": ";
    d.isRow(what + "all", slice(down, FIXED, left, right), signs);
    d.isRow(what + "the first", slice(down, FIXED, left, left), signs.substring(0, 1));
    d.isRow(what + "the last", slice(down, FIXED, right, right), signs.substring(length - 1));
    d.looks(what + "all of a signal", slice(down, SIGNAL, left, right), TypeBook.ROW, length, 0, 1);
    d.looks(what + "one of a variable", slice(down, VARIABLE, right, right), TypeBook.ROW, 1, 0, 2);
    if (length > 1) {
      d.isRow(what + "all but the first", slice(down, FIXED, left + step, right), signs.substring(1));
      d.isRow(what + "all but the last", slice(down, FIXED, left, right - step), signs.substring(0, length - 1));
      d.fault(what + "no element", slice(down, SIGNAL, right, right - step), 6);
      d.fault(what + "far from any", slice(down, FIXED, right, left), 6);
      d.fault(what + "the other way, from right to left", slice(!down, FIXED, right, left), 6);
    }
    d.fault(what + "the other way", slice(!down, FIXED, left, right), 6);
    d.fault(what + "the other way, one", slice(!down, SIGNAL, left, left), 6);
    slicesBeyond(left, right, down, step);
  }

  private static void slicesBeyond(int left, int right, boolean down, int step) {
    String what = left + " to " + right + ": ";
    for (int name = FIXED; name <= SIGNAL; name++) {
      if (left != MOST || step > 0) {
        d.fault(what + "one before the first", slice(down, name, left - step, right), 6);
        d.fault(what + "no element before the first", slice(down, name, left, left - step), 6);
        d.fault(what + "all beyond", slice(down, name, left - step, left - step), 6);
      }
      if (right != MOST || step < 0) {
        d.fault(what + "one behind the last", slice(down, name, left, right + step), 6);
        d.fault(what + "no element behind the last", slice(down, name, right + step, right), 6);
        d.fault(what + "all beyond", slice(down, name, right + step, right + step), 6);
      }
      d.fault(what + "as far as can be", slice(down, name, -MOST * step, MOST * step), 6);
      d.fault(what + "as far from any as can be", slice(down, name, MOST * step, -MOST * step), 6);
    }
  }

  /** "constant if all that it is made of is"; "two constant INTEGERs" */
  private static void placesThatAreNotConstant() {
    beginSmall();
    d.looks("an element", d.apply(FIXED, d.name(COUNT)), TypeBook.LOGIC, 0, 0, 0);
    d.looks("of a signal", d.apply(SIGNAL, d.name(COUNT)), TypeBook.LOGIC, 0, 0, 1);
    d.looks("by a constant", d.apply(FIXED, d.name(ZERO)), TypeBook.LOGIC, 0, 1, 0);
    d.fault("a slice from there", d.sliceDown(FIXED, d.name(COUNT), d.number(0)), 5);
    d.fault("a slice to there", d.sliceDown(FIXED, d.number(3), d.name(COUNT)), 5);
    d.looks("a slice by a constant", d.sliceDown(FIXED, d.number(3), d.name(ZERO)), TypeBook.ROW, 4, 1, 0);
    d.fault("no INTEGER", d.apply(FIXED, d.name(BIT)), 3);
    d.fault("no INTEGER", d.apply(FIXED, d.name(RED)), 3);
    d.fault("no INTEGER from there", d.sliceDown(FIXED, d.row("11"), d.number(0)), 3);
    d.fault("no INTEGER to there", d.sliceDown(FIXED, d.number(3), d.name(FLAG)), 3);
  }

  /** "of other objects, places, true, types: 2" */
  private static void whatIsNoRow() {
    beginSmall();
    for (int name : new int[] {COUNT, BIT, FLAG, ZERO, RED, Desk.TRUE, Desk.FALSE, COLORS, NAMED, 0, 1, 2, 3, 4, 5}) {
      d.fault("name " + name, d.apply(name, d.number(0)), 2);
    }
    for (int name : new int[] {12, 15, 99, 9999}) {
      d.fault("name " + name, d.apply(name, d.number(0)), 1);
    }
  }

  /** "another number of children" */
  private static void numbersOfArguments() {
    beginSmall();
    int[] names = {FIXED, SIGNAL, Desk.RISING, Desk.FALLING, Desk.NUMBER, Desk.BITS};
    int[] due = {1, 1, 1, 1, 1, 2};
    for (int i = 0; i < names.length; i++) {
      for (int n = 0; n <= 3; n++) {
        if (n != due[i]) {
          for (int k = 0; k < n; k++) {
            d.number(1);
          }
          d.fault(n + " of name " + names[i], d.book.add(22, names[i], n), 11);
        }
      }
    }
    beginSmall();
    for (int kind = 23; kind <= 24; kind++) {
      for (int n = 0; n <= 3; n++) {
        if (n != 2) {
          for (int k = 0; k < n; k++) {
            d.number(1);
          }
          d.fault(n + " of a slice", d.book.add(kind, FIXED, n), 11);
        }
      }
    }
  }

  /** "11 for what is no NAME, 2 for the NAME of no signal, 3 for a signal that is not of LOGIC" */
  private static void edges() {
    for (int function = Desk.RISING; function <= Desk.FALLING; function++) {
      beginSmall();
      d.looks("a signal of LOGIC", d.apply(function, d.name(BIT)), TypeBook.TRUTH, 0, 0, 3000);
      d.fault("its element", d.apply(function, d.apply(SIGNAL, d.number(0))), 11);
      d.fault("its last value", d.apply(function, d.attribute(BIT, 17)), 11);
      d.fault("a SIGN", d.apply(function, d.sign('1')), 11);
      d.fault("not of it", d.apply(function, d.unary(0, d.name(BIT))), 11);
      d.fault("a constant", d.apply(function, d.name(FIXED)), 2);
      d.fault("a variable", d.apply(function, d.name(VARIABLE)), 2);
      d.fault("a place", d.apply(function, d.name(RED)), 2);
      d.fault("true", d.apply(function, d.name(Desk.TRUE)), 2);
      d.fault("a row", d.apply(function, d.name(SIGNAL)), 3);
      d.fault("an INTEGER", d.apply(function, d.name(COUNT)), 3);
      d.fault("a TRUTH", d.apply(function, d.name(FLAG)), 3);
      d.book.declare(Desk.SIGNAL, 200, d.rowUp(0, 0), 0);
      d.fault("a row of one", d.apply(function, d.name(200)), 3);
      d.book.declare(Desk.VARIABLE, 201, Desk.LOGIC, 0);
      d.fault("a variable of LOGIC", d.apply(function, d.name(201)), 2);
    }
  }

  /** "number (a row; 3 otherwise): INTEGER" */
  private static void numberOf() {
    beginSmall();
    d.is("a row of one", d.apply(Desk.NUMBER, d.row("H")), TypeBook.INTEGER, 1);
    d.looks("of a signal", d.apply(Desk.NUMBER, d.name(SIGNAL)), TypeBook.INTEGER, 0, 0, 3000);
    for (int name : new int[] {BIT, COUNT, FLAG, ZERO, RED, Desk.TRUE}) {
      d.fault("name " + name, d.apply(Desk.NUMBER, d.name(name)), 3);
    }
    begin(63, 0, true);
    d.looks("64 that are not constant", d.apply(Desk.NUMBER, d.name(SIGNAL)), TypeBook.INTEGER, 0, 0, 3000);
    d.fault("64 that are not CLEAR", d.apply(Desk.NUMBER, d.name(FIXED)), 9);
  }

  /** "bits (an INTEGER, a constant INTEGER n; 3 otherwise; 1 .. 64: 4 otherwise): a row of n" */
  private static void bits() {
    for (int n : new int[] {1, 2, 63, 64}) {
      beginSmall();
      d.looks("of a constant", d.apply(Desk.BITS, d.number(5), d.number(n)), TypeBook.ROW, n, 1, 3000);
      d.looks("of a signal", d.apply(Desk.BITS, d.name(COUNT), d.number(n)), TypeBook.ROW, n, 0, 3000);
    }
    for (int n : new int[] {0, 65, -1, MOST, -MOST, 128, 256}) {
      beginSmall();
      d.fault("of a constant, " + n, d.apply(Desk.BITS, d.number(5), d.number(n)), 4);
      d.fault("of a signal, " + n, d.apply(Desk.BITS, d.name(COUNT), d.number(n)), 4);
    }
    beginSmall();
    for (int name : new int[] {BIT, FLAG, FIXED, RED, Desk.TRUE}) {
      d.fault("of name " + name, d.apply(Desk.BITS, d.name(name), d.number(1)), 3);
      d.fault("as long as name " + name, d.apply(Desk.BITS, d.number(1), d.name(name)), 3);
    }
    d.fault("3 before 4", d.apply(Desk.BITS, d.name(BIT), d.number(65)), 3);
    d.fault("a length that is not constant", d.apply(Desk.BITS, d.number(1), d.name(COUNT)), 3);
  }

  /** "of a row object (2 as for APPLY)" */
  private static void slicesOfWhat() {
    beginSmall();
    for (int kind = 23; kind <= 24; kind++) {
      for (int name : new int[] {COUNT, BIT, ZERO, RED, Desk.TRUE, COLORS, NAMED, 4, 5, Desk.RISING, Desk.BITS}) {
        d.fault("name " + name, d.node(kind, name, d.number(0), d.number(0)), 2);
      }
      d.fault("nothing", d.node(kind, 99, d.number(0), d.number(0)), 1);
    }
  }

  /** "NAME of the attribute, by its number, whatever scopes have by it"; 11: "no NAME of one or has children" */
  private static void attributes() {
    beginSmall();
    int[] kinds = {TypeBook.TRUTH, TypeBook.TRUTH, TypeBook.ROW, TypeBook.INTEGER, TypeBook.INTEGER, TypeBook.INTEGER,
        TypeBook.INTEGER, TypeBook.INTEGER};
    for (int which = 15; which <= 22; which++) {
      d.looks("attribute " + which, d.attribute(SIGNAL, which), kinds[which - 15], which == 17 ? 4 : 0,
          which < 18 ? 0 : 1, 1);
      d.fault("with a child, " + which, d.node(25, SIGNAL, d.node(1, which, d.number(0))), 11);
      d.fault("no NAME, " + which, d.node(25, SIGNAL, d.node(2, which)), 11);
      d.fault("a TYPE, " + which, d.node(25, SIGNAL, d.node(10, which)), 11);
    }
    for (int which : new int[] {0, 14, 23, SIGNAL, 9999}) {
      d.fault("attribute " + which, d.attribute(SIGNAL, which), 11);
    }
    d.fault("none", d.node(25, SIGNAL), 11);
    d.fault("two", d.node(25, SIGNAL, d.name(18), d.name(18)), 11);
    beginSmall();
    d.book.enter();
    for (int which = 15; which <= 22; which++) {
      d.book.subtype(which, Desk.TRUTH);
      d.due("whatever scopes have by " + which, d.book.check(d.attribute(SIGNAL, which), TypeBook.NONE), 0);
    }
  }

  /** "event, active, last .. of other objects: 2"; "length, .. of a row object (of another one: 3)" */
  private static void attributesOfWhat() {
    for (int which = 15; which <= 22; which++) {
      beginSmall();
      for (int name : new int[] {RED, Desk.TRUE, COLORS, NAMED, 0, 5, Desk.BITS}) {
        d.fault(which + " of what is no object, " + name, d.attribute(name, which), 2);
      }
      d.fault(which + " of nothing", d.attribute(99, which), 1);
      d.fault(which + " of a name that is an attribute", d.attribute(which, which), 1);
      if (which <= 17) {
        d.fault(which + " of a constant row", d.attribute(FIXED, which), 2);
        d.fault(which + " of a variable row", d.attribute(VARIABLE, which), 2);
        d.fault(which + " of a constant", d.attribute(ZERO, which), 2);
        d.looks(which + " of LOGIC", d.attribute(BIT, which), which == 17 ? TypeBook.LOGIC : TypeBook.TRUTH, 0, 0, 4);
      } else {
        d.fault(which + " of LOGIC", d.attribute(BIT, which), 3);
        d.fault(which + " of a constant", d.attribute(ZERO, which), 3);
        d.looks(which + " of a constant row", d.attribute(FIXED, which), TypeBook.INTEGER, 0, 1, 0);
        d.looks(which + " of a variable row", d.attribute(VARIABLE, which), TypeBook.INTEGER, 0, 1, 2);
      }
    }
  }

  private static void boundsByAttributes() {
    for (int[] bounds : BOUNDS) {
      int left = bounds[0];
      int right = bounds[1];
      begin(left, right, left > right);
      int[] due = {Math.abs(left - right) + 1, left, right, Math.max(left, right), Math.min(left, right)};
      for (int which = 18; which <= 22; which++) {
        d.is(left + " to " + right + ": attribute " + which, d.attribute(SIGNAL, which), TypeBook.INTEGER,
            due[which - 18]);
      }
    }
  }
}
