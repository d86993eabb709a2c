/** check(): NAME, APPLY, SLICE and ATTRIBUTE. */
public final class Promise10Names {
  private static final Desk d = new Desk();
  private static final int DOWN = 100, UP = 101, DOWN_SIGNAL = 102, BIT = 103, COUNT = 104, FLAG = 105, VARIABLE = 106,
      TYPE_NAME = 107, COLOR = 110, PLACE = 111, STATE = 112, SEVEN = 113;

  public static void main(String[] args) {
    names();
    elements();
    functions();
    slices();
    attributesOfSignals();
    attributesOfRows();
    shadows();
    d.end();
  }

  private static void begin() {
    d.fresh();
    int down = d.rowDown(9, 6);
    int up = d.rowUp(2, 5);
    d.constant(DOWN, down, d.row("UX01"));
    d.constant(UP, up, d.row("ZWLH"));
    d.book.declare(Desk.SIGNAL, DOWN_SIGNAL, down, 0);
    d.book.declare(Desk.SIGNAL, BIT, Desk.LOGIC, 0);
    d.book.declare(Desk.SIGNAL, COUNT, Desk.INTEGERS, 0);
    d.book.declare(Desk.SIGNAL, FLAG, Desk.TRUTH, 0);
    d.book.declare(Desk.VARIABLE, VARIABLE, Desk.LOGIC, 0);
    d.book.subtype(TYPE_NAME, down);
    d.book.declare(Desk.SIGNAL, STATE, d.enumeration(COLOR, PLACE), 0);
    d.constant(SEVEN, Desk.INTEGERS, d.number(7));
  }

  private static void names() {
    begin();
    for (int name : new int[] {0, 1, 2, 3, 4, 5, 8, 9, 10, 11, TYPE_NAME, COLOR}) {
      d.fault("name " + name, d.name(name), 2);
    }
    for (int name : new int[] {12, 13, 14, 15, 16, 17, 18, 19, 20, 21, 22, 23, 99, 9999}) {
      d.fault("name " + name, d.name(name), 1);
    }
    d.fault("with a child", d.node(1, BIT, d.number(1)), 11);
    d.fault("with a child, and nothing", d.node(1, 99, d.number(1)), 11);
  }

  private static void elements() {
    begin();
    for (int i = 0; i < 4; i++) {
      d.is("down", d.apply(DOWN, d.number(9 - i)), TypeBook.LOGIC, i);
      d.is("up", d.apply(UP, d.number(2 + i)), TypeBook.LOGIC, 4 + i);
    }
    for (int place : new int[] {5, 10, -7, 2147483647, -2147483647}) {
      d.fault("down beyond", d.apply(DOWN, d.number(place)), 6);
      d.fault("of a signal beyond", d.apply(DOWN_SIGNAL, d.number(place)), 6);
    }
    d.fault("up below", d.apply(UP, d.number(1)), 6);
    d.fault("up above", d.apply(UP, d.number(6)), 6);
    d.looks("of a signal", d.apply(DOWN_SIGNAL, d.name(SEVEN)), TypeBook.LOGIC, 0, 0, 2);
    d.looks("at a signal", d.apply(DOWN, d.name(COUNT)), TypeBook.LOGIC, 0, 0, 0);
    d.fault("at a sign", d.apply(DOWN, d.sign('1')), 3);
    begin();
    for (int name : new int[] {BIT, COUNT, FLAG, VARIABLE, STATE, SEVEN, TYPE_NAME, COLOR, PLACE, Desk.TRUE, 0, 4, 5}) {
      d.fault("of name " + name, d.apply(name, d.number(7)), 2);
      d.fault("of name " + name + " without arguments", d.apply(name), 2);
    }
    d.fault("of nothing", d.apply(99, d.number(7)), 1);
    d.fault("of nothing without arguments", d.apply(99), 1);
    d.fault("no argument", d.apply(DOWN), 11);
    d.fault("two arguments", d.apply(DOWN, d.number(7), d.number(7)), 11);
  }

  private static void functions() {
    begin();
    d.looks("rising", d.apply(Desk.RISING, d.name(BIT)), TypeBook.TRUTH, 0, 0, 3000);
    d.looks("falling", d.apply(Desk.FALLING, d.name(BIT)), TypeBook.TRUTH, 0, 0, 3000);
    for (int function = Desk.RISING; function <= Desk.FALLING; function++) {
      d.fault("of a sign", d.apply(function, d.sign('1')), 11);
      d.fault("of an element", d.apply(function, d.apply(DOWN_SIGNAL, d.number(7))), 11);
      d.fault("of a variable", d.apply(function, d.name(VARIABLE)), 2);
      d.fault("of a constant", d.apply(function, d.name(SEVEN)), 2);
      d.fault("of true", d.apply(function, d.name(Desk.TRUE)), 2);
      d.fault("of a place", d.apply(function, d.name(PLACE)), 2);
      d.fault("of another signal", d.apply(function, d.name(FLAG)), 3);
      d.fault("of none", d.apply(function), 11);
      d.fault("of two", d.apply(function, d.name(BIT), d.name(BIT)), 11);
      int type = d.name(TYPE_NAME);
      d.fault("of a type", d.apply(function, type), TypeBook.NONE, 2, type);
    }
    begin();
    d.looks("number of a signal", d.apply(Desk.NUMBER, d.name(DOWN_SIGNAL)), TypeBook.INTEGER, 0, 0, 3000);
    d.fault("number of a sign", d.apply(Desk.NUMBER, d.sign('1')), 3);
    d.fault("number of none", d.apply(Desk.NUMBER), 11);
    d.looks("bits of a signal", d.apply(Desk.BITS, d.name(COUNT), d.name(SEVEN)), TypeBook.ROW, 7, 0, 3000);
    d.fault("bits of a row", d.apply(Desk.BITS, d.name(DOWN), d.number(3)), 3);
    d.fault("bits, length of a sign", d.apply(Desk.BITS, d.number(3), d.sign('1')), 3);
    bitsLengthNotConstant();
    d.fault("bits, no length", d.apply(Desk.BITS, d.number(3), d.number(0)), 4);
    d.fault("bits, below", d.apply(Desk.BITS, d.number(3), d.number(-1)), 4);
    d.fault("bits, above", d.apply(Desk.BITS, d.name(COUNT), d.number(65)), 4);
    d.fault("bits of one", d.apply(Desk.BITS, d.number(3)), 11);
  }

  /** bits takes "a constant INTEGER n; 3 otherwise", so 5 is not for its arguments. */
  private static void bitsLengthNotConstant() {
    d.fault("length of a signal", d.apply(Desk.BITS, d.number(3), d.name(COUNT)), 3);
    d.fault("length of a sum", d.apply(Desk.BITS, d.number(3), d.binary(Desk.SUM, d.number(3), d.name(COUNT))), 3);
    d.fault("length of a row's number",
        d.apply(Desk.BITS, d.number(3), d.apply(Desk.NUMBER, d.name(DOWN_SIGNAL))), 3);
    d.fault("both of a signal", d.apply(Desk.BITS, d.name(COUNT), d.name(COUNT)), 3);
    d.looks("a signal's length is constant", d.apply(Desk.BITS, d.number(3), d.attribute(DOWN_SIGNAL, 18)),
        TypeBook.ROW, 4, 1, 3000);
    int row = d.rowDown(3, 0);
    int node = d.apply(Desk.BITS, d.number(3), d.name(COUNT));
    d.fault("for a row", node, row, 3, node);
    d.fault("for an INTEGER", node, Desk.INTEGERS, 3, node);
    d.due("for a constant", d.book.declare(Desk.CONSTANT, 98, row, node), -3);
    d.due("for a constant: place", d.book.place(), node);
    d.due("below a bound", d.book.type(d.node(11, 0, d.apply(Desk.NUMBER, node), d.number(9))), -3);
    d.due("below a bound: place", d.book.place(), node);
  }

  private static void slices() {
    begin();
    d.isRow("down", d.sliceDown(DOWN, d.number(8), d.number(7)), "X0");
    d.isRow("all of it", d.sliceDown(DOWN, d.number(9), d.number(6)), "UX01");
    d.isRow("one", d.sliceDown(DOWN, d.number(6), d.number(6)), "1");
    d.isRow("up", d.sliceUp(UP, d.number(2), d.number(4)), "ZWL");
    d.isRow("all of it", d.sliceUp(UP, d.number(2), d.number(5)), "ZWLH");
    d.looks("of a signal", d.sliceDown(DOWN_SIGNAL, d.number(8), d.number(7)), TypeBook.ROW, 2, 0, 2);
    d.fault("the other way", d.sliceUp(DOWN, d.number(7), d.number(7)), 6);
    d.fault("the other way", d.sliceDown(UP, d.number(3), d.number(3)), 6);
    d.fault("none between", d.sliceDown(DOWN, d.number(7), d.number(8)), 6);
    d.fault("none between", d.sliceUp(UP, d.number(4), d.number(3)), 6);
    d.fault("beyond to the left", d.sliceDown(DOWN, d.number(10), d.number(8)), 6);
    d.fault("beyond to the right", d.sliceDown(DOWN_SIGNAL, d.number(8), d.number(5)), 6);
    d.fault("beyond", d.sliceUp(UP, d.number(1), d.number(3)), 6);
    d.fault("not constant", d.sliceDown(DOWN, d.name(COUNT), d.number(5)), 5);
    d.fault("class before", d.sliceDown(DOWN, d.name(COUNT), d.name(BIT)), 3);
    begin();
    for (int name : new int[] {BIT, COUNT, SEVEN, TYPE_NAME, PLACE, Desk.TRUE, Desk.RISING, Desk.NUMBER, 0, 5}) {
      d.fault("of name " + name, d.sliceDown(name, d.number(7), d.number(7)), 2);
    }
    d.fault("of nothing", d.sliceUp(99, d.number(7), d.number(7)), 1);
    d.fault("one child", d.node(23, DOWN, d.number(7)), 11);
    d.fault("three children before nothing", d.node(24, 99, d.number(7), d.number(7), d.number(7)), 11);
  }

  private static void attributesOfSignals() {
    begin();
    for (int which = 15; which <= 16; which++) {
      d.looks("of a row", d.attribute(DOWN_SIGNAL, which), TypeBook.TRUTH, 0, 0, 2);
      d.looks("of a sign", d.attribute(BIT, which), TypeBook.TRUTH, 0, 0, 3);
    }
    d.looks("last of a row", d.attribute(DOWN_SIGNAL, 17), TypeBook.ROW, 4, 0, 2);
    d.looks("last of an integer", d.attribute(COUNT, 17), TypeBook.INTEGER, 0, 0, 4);
    d.looks("last of a place", d.attribute(STATE, 17), TypeBook.ENUMERATION, 7, 0, 7);
    for (int which = 15; which <= 17; which++) {
      d.fault("of a variable", d.attribute(VARIABLE, which), 2);
      d.fault("of a constant", d.attribute(DOWN, which), 2);
      d.fault("of a type", d.attribute(TYPE_NAME, which), 2);
      d.fault("of a place", d.attribute(PLACE, which), 2);
      d.fault("of nothing", d.attribute(99, which), 1);
    }
  }

  private static void attributesOfRows() {
    begin();
    int[] down = {4, 9, 6, 9, 6};
    int[] up = {4, 2, 5, 5, 2};
    for (int which = 18; which <= 22; which++) {
      d.is("down " + which, d.attribute(DOWN, which), TypeBook.INTEGER, down[which - 18]);
      d.is("signal " + which, d.attribute(DOWN_SIGNAL, which), TypeBook.INTEGER, down[which - 18]);
      d.is("up " + which, d.attribute(UP, which), TypeBook.INTEGER, up[which - 18]);
      d.fault("of a sign", d.attribute(BIT, which), 3);
      d.fault("of an integer", d.attribute(SEVEN, which), 3);
      d.fault("of a type", d.attribute(TYPE_NAME, which), 2);
      d.fault("of true", d.attribute(Desk.TRUE, which), 2);
      d.fault("of a function", d.attribute(Desk.BITS, which), 2);
    }
    begin();
    for (int which : new int[] {0, 8, 14, 23, 99, BIT}) {
      d.fault("attribute " + which, d.attribute(DOWN_SIGNAL, which), 11);
      d.fault("attribute " + which + " of nothing", d.attribute(99, which), 11);
    }
    d.fault("none", d.node(25, DOWN), 11);
    d.fault("two", d.node(25, DOWN, d.name(18), d.name(18)), 11);
    d.fault("no NAME", d.node(25, DOWN, d.number(18)), 11);
    d.fault("with a child", d.node(25, DOWN, d.node(1, 18, d.number(1))), 11);
    d.fault("what is below is not looked at", d.node(25, DOWN, d.unary(1, d.name(99))), 11);
    int low = d.attribute(DOWN, 22);
    d.is("as a place", d.apply(DOWN, low), TypeBook.LOGIC, 3);
  }

  private static void shadows() {
    begin();
    d.book.enter();
    d.book.declare(Desk.VARIABLE, 18, Desk.LOGIC, 0);
    d.is("whatever scopes have by it", d.attribute(DOWN, 18), TypeBook.INTEGER, 4);
    d.book.declare(Desk.SIGNAL, Desk.RISING, d.book.type(d.node(10, TYPE_NAME)), 0);
    d.looks("a function's name", d.apply(Desk.RISING, d.number(7)), TypeBook.LOGIC, 0, 0, 10);
    d.enumeration(Desk.TRUE, Desk.FALSE);
    d.fault("true is a type", d.name(Desk.TRUE), 2);
    d.is("false is a place", d.name(Desk.FALSE), TypeBook.ENUMERATION, 0);
    d.book.leave();
    d.fault("a function again", d.apply(Desk.RISING, d.number(7)), 11);
    d.is("true again", d.name(Desk.TRUE), TypeBook.TRUTH, 1);
  }
}
