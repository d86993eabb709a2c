/** The term EXPRESSIONS, at its edges: each kind's values, numbers of children, places, slices and attributes. */
public final class EdgesOfExpressions {
  private static final int MOST = 2147483647;
  private static final Desk d = new Desk();
  private static final int[] FAR = {Integer.MIN_VALUE, MOST};
  private static final int ROW = 100, COUNT = 101, BIT = 102, FIXED = 103, VARIABLE = 104, WIDE = 105, WIDER = 106;

  public static void main(String[] args) {
    kinds();
    names();
    numbers();
    signs();
    rows();
    unaries();
    binaries();
    lengths();
    joined();
    d.end();
  }

  private static void begin() {
    d.fresh();
    int down = d.rowDown(3, 0);
    d.book.declare(Desk.SIGNAL, ROW, down, 0);
    d.book.declare(Desk.SIGNAL, COUNT, Desk.INTEGERS, 0);
    d.book.declare(Desk.SIGNAL, BIT, Desk.LOGIC, 0);
    d.constant(FIXED, down, d.row("01ZH"));
    d.book.declare(Desk.VARIABLE, VARIABLE, Desk.LOGIC, 0);
    d.book.declare(Desk.SIGNAL, WIDE, d.rowUp(1, 63), 0);
    d.book.declare(Desk.SIGNAL, WIDER, d.rowUp(0, 63), 0);
  }

  /** "11: a kind that is no expression's": all but 1 to 4 and 20 to 25. */
  private static void kinds() {
    for (int kind = 0; kind <= 99; kind++) {
      if (kind % 40 == 0) {
        begin();
      }
      boolean expression = kind >= 1 && kind <= 4 || kind >= 20 && kind <= 25;
      if (!expression) {
        d.fault("kind " + kind, d.node(kind, 0), 11);
        d.fault("kind " + kind + " with a child", d.node(kind, 0, d.sign('1')), 11);
      }
    }
  }

  /** "1 NAME (name)": no children. */
  private static void names() {
    begin();
    d.looks("none", d.name(BIT), TypeBook.LOGIC, 0, 0, 2);
    d.fault("one", d.node(1, BIT, d.number(0)), 11);
    d.fault("two", d.node(1, Desk.TRUE, d.number(0), d.number(0)), 11);
  }

  /** "2 NUMBER (v, 0 and more)": no children. */
  private static void numbers() {
    begin();
    d.is("least", d.node(2, 0), TypeBook.INTEGER, 0);
    d.is("greatest", d.node(2, MOST), TypeBook.INTEGER, MOST);
    d.fault("below", d.node(2, -1), 11);
    d.fault("far below", d.node(2, Integer.MIN_VALUE), 11);
    d.fault("one child", d.node(2, 0, d.number(0)), 11);
  }

  /** "3 SIGN (0 .. 8)": no children. */
  private static void signs() {
    begin();
    d.is("least", d.node(3, 0), TypeBook.LOGIC, 0);
    d.is("greatest", d.node(3, 8), TypeBook.LOGIC, 8);
    d.fault("below", d.node(3, -1), 11);
    d.fault("above", d.node(3, 9), 11);
    for (int value : FAR) {
      d.fault("far", d.node(3, value), 11);
    }
    d.fault("one child", d.node(3, 0, d.sign('1')), 11);
  }

  /** "4 ROW (; SIGNs, 1 to 64, from the left)"; "children of ROW that are no SIGNs" */
  private static void rows() {
    begin();
    d.isRow("one", d.row("L"), "L");
    d.isRow("from the left", d.row("UX01ZWLH-"), "UX01ZWLH-");
    d.fault("none", d.node(4, 0), 11);
    d.isRow("64", d.row("01".repeat(32)), "01".repeat(32));
    d.fault("65", d.row("1".repeat(65)), 11);
    begin();
    for (int value : new int[] {-1, 0, 3, MOST, Integer.MIN_VALUE}) {
      d.isRow("it has no value", d.node(4, value, d.sign('Z')), "Z");
    }
    d.fault("a NAME of LOGIC", d.node(4, 0, d.name(BIT)), 11);
    d.fault("an element", d.node(4, 0, d.apply(FIXED, d.number(0))), 11);
    d.fault("a row", d.node(4, 0, d.row("1")), 11);
    d.fault("a NUMBER", d.node(4, 0, d.number(1)), 11);
    d.fault("not of LOGIC", d.node(4, 0, d.unary(0, d.sign('1'))), 11);
    d.fault("the first alone", d.node(4, 0, d.number(1), d.sign('1'), d.sign('1')), 11);
    d.fault("the last alone", d.node(4, 0, d.sign('1'), d.sign('1'), d.number(1)), 11);
  }

  /** "20 UNARY (o; a)": 0 to 3, one child. */
  private static void unaries() {
    begin();
    for (int operator = 1; operator <= 3; operator++) {
      d.looks("operator " + operator, d.unary(operator, d.name(COUNT)), TypeBook.INTEGER, 0, 0, TypeBook.NONE);
    }
    d.looks("operator 0", d.unary(0, d.name(BIT)), TypeBook.LOGIC, 0, 0, TypeBook.NONE);
    for (int operator : new int[] {-1, 4, Integer.MIN_VALUE, MOST}) {
      d.fault("of an INTEGER " + operator, d.node(20, operator, d.name(COUNT)), 11);
      d.fault("of LOGIC " + operator, d.node(20, operator, d.name(BIT)), 11);
    }
    for (int operator = 0; operator <= 3; operator++) {
      d.fault("no child " + operator, d.node(20, operator), 11);
      d.fault("two children " + operator, d.node(20, operator, d.number(1), d.number(1)), 11);
    }
  }

  /** "21 BINARY (o; a, b)": 0 to 20, two children. */
  private static void binaries() {
    begin();
    for (int operator = 0; operator <= 20; operator++) {
      boolean ofInteger = operator >= 15;
      boolean shifts = operator >= 19;
      int left = d.name(ofInteger && !shifts ? COUNT : ROW);
      int node = d.binary(operator, left, d.name(ofInteger ? COUNT : ROW));
      d.due("operator " + operator, d.book.check(node, TypeBook.NONE), 0);
      d.fault("no child " + operator, d.node(21, operator), 11);
      d.fault("one child " + operator, d.node(21, operator, d.number(1)), 11);
      d.fault("three children " + operator, d.node(21, operator, d.number(1), d.number(1), d.number(1)), 11);
    }
    begin();
    for (int operator : new int[] {-1, 21, Integer.MIN_VALUE, MOST}) {
      d.fault("of INTEGERs " + operator, d.node(21, operator, d.number(1), d.number(1)), 11);
      d.fault("of rows " + operator, d.node(21, operator, d.row("1"), d.row("1")), 11);
      d.fault("of a row and an INTEGER " + operator, d.node(21, operator, d.row("1"), d.number(1)), 11);
    }
  }

  /** "rows of one length": 4 for one less or one more, constant or not. */
  private static void lengths() {
    for (int operator = 0; operator <= 13; operator++) {
      begin();
      boolean tells = operator >= 6 && operator <= 11;
      int[] lengths = {63, 64};
      int[] names = {WIDE, WIDER};
      for (int i = 0; i < 2; i++) {
        d.looks("alike, operator " + operator, d.binary(operator, d.name(names[i]), d.name(names[i])),
            tells ? TypeBook.TRUTH : TypeBook.ROW, tells ? 0 : lengths[i], 0, TypeBook.NONE);
        d.fault("signals, operator " + operator, d.binary(operator, d.name(names[i]), d.name(names[1 - i])), 4);
      }
      d.fault("one more, operator " + operator, d.binary(operator, d.row("10"), d.row("010")), 4);
      d.fault("one less, operator " + operator, d.binary(operator, d.row("010"), d.row("10")), 4);
      d.fault("one signal, operator " + operator, d.binary(operator, d.name(ROW), d.row("10101")), 4);
      d.due("one and one, operator " + operator,
          d.book.check(d.binary(operator, d.row("1"), d.row("0")), TypeBook.NONE), 0);
    }
  }

  /** 4: "also an answer of more than 64" */
  private static void joined() {
    begin();
    d.looks("63 and one", d.binary(Desk.JOINED, d.name(WIDE), d.name(BIT)), TypeBook.ROW, 64, 0, TypeBook.NONE);
    d.looks("one and 63", d.binary(Desk.JOINED, d.name(BIT), d.name(WIDE)), TypeBook.ROW, 64, 0, TypeBook.NONE);
    d.fault("64 and one", d.binary(Desk.JOINED, d.name(WIDER), d.name(BIT)), 4);
    d.fault("one and 64", d.binary(Desk.JOINED, d.name(BIT), d.name(WIDER)), 4);
    d.fault("63 and 4", d.binary(Desk.JOINED, d.name(WIDE), d.name(ROW)), 4);
    d.fault("64 and 64", d.binary(Desk.JOINED, d.name(WIDER), d.name(WIDER)), 4);
    d.looks("one and one", d.binary(Desk.JOINED, d.name(BIT), d.name(BIT)), TypeBook.ROW, 2, 0, TypeBook.NONE);
    d.isRow("32 and 32", d.binary(Desk.JOINED, d.row("01".repeat(16)), d.row("ZH".repeat(16))),
        "01".repeat(16) + "ZH".repeat(16));
    begin();
    d.fault("33 and 32", d.binary(Desk.JOINED, d.row("1".repeat(33)), d.row("0".repeat(32))), 4);
    d.fault("32 and 33", d.binary(Desk.JOINED, d.row("1".repeat(32)), d.row("0".repeat(33))), 4);
  }
}
