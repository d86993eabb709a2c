/** declare(): constants, signals, variables. */
public final class Promise09Declare {
  private static final Desk d = new Desk();

  public static void main(String[] args) {
    ordinary();
    faults();
    order();
    wrongInputs();
    manyConstants();
    d.end();
  }

  private static void ordinary() {
    int row = d.rowDown(3, 0);
    int other = d.rowUp(1, 4);
    d.due("signal", d.book.declare(Desk.SIGNAL, 100, row, -77), 0);
    d.due("variable", d.book.declare(Desk.VARIABLE, 101, Desk.FROM_0, 9999), 1);
    int node = d.row("1XH-");
    d.due("constant", d.book.declare(Desk.CONSTANT, 102, row, node), 2);
    d.isRow("its node is looked at", node, "1XH-");
    d.isRow("its value", d.name(102), "1XH-");
    d.due("of other bounds", d.book.declare(Desk.CONSTANT, 103, other, d.name(102)), 3);
    d.is("element", d.apply(103, d.number(1)), TypeBook.LOGIC, 3);
    d.constant(104, Desk.FROM_1, d.number(7));
    d.is("integer", d.name(104), TypeBook.INTEGER, 7);
    d.constant(105, Desk.TRUTH, d.name(Desk.TRUE));
    d.is("truth", d.name(105), TypeBook.TRUTH, 1);
    d.constant(106, Desk.LOGIC, d.sign('-'));
    d.is("sign", d.name(106), TypeBook.LOGIC, 8);
    int colors = d.enumeration(110, 111, 112, 113);
    d.constant(107, colors, d.name(113));
    d.is("place", d.name(107), TypeBook.ENUMERATION, 2);
    d.looks("constant's meaning", d.name(107), TypeBook.ENUMERATION, colors, 1, 7);
    d.looks("signal's meaning", d.name(100), TypeBook.ROW, 4, 0, 0);
    d.looks("variable's meaning", d.name(101), TypeBook.INTEGER, 0, 0, 1);
  }

  private static void fault(String what, int type, int node, int fault, int at) {
    d.due(what, d.book.declare(Desk.CONSTANT, 500, type, node), -fault);
    d.due(what + ": place", d.book.place(), at);
  }

  private static void faults() {
    d.fresh();
    int row = d.rowDown(3, 0);
    int small = d.range(2, 4);
    int colors = d.enumeration(110, 111);
    int others = d.enumeration(120, 121);
    d.book.declare(Desk.SIGNAL, 100, row, 0);
    d.book.declare(Desk.SIGNAL, 101, Desk.INTEGERS, 0);
    int node = d.name(101);
    fault("no constant", Desk.INTEGERS, node, 5, node);
    fault("class before", row, node, 3, node);
    d.isUnknown("a fault changes nothing", node);
    node = d.name(100);
    fault("no constant row", row, node, 5, node);
    fault("class before", Desk.LOGIC, node, 3, node);
    node = d.sliceDown(100, d.number(2), d.number(0));
    fault("length before", row, node, 4, node);
    node = d.number(5);
    fault("outside", small, node, 8, node);
    node = d.number(1);
    fault("outside", small, node, 8, node);
    node = d.name(121);
    fault("another enumeration", colors, node, 3, node);
    node = d.name(111);
    fault("another enumeration", others, node, 3, node);
    int child = d.name(99);
    fault("below", small, d.unary(1, child), 1, child);
    d.fault("none was declared", d.name(500), 1);
    d.due("nor numbered", d.book.declare(Desk.SIGNAL, 500, 0, 0), 2);
  }

  private static void order() {
    d.fresh();
    int row = d.rowDown(3, 0);
    d.book.declare(Desk.SIGNAL, 100, row, 0);
    d.book.declare(Desk.SIGNAL, 500, row, 0);
    int node = d.number(3);
    d.due("7", d.book.declare(Desk.CONSTANT, 500, Desk.INTEGERS, node), -7);
    d.due("7 has no place", d.book.place(), TypeBook.NONE);
    d.isUnknown("7 changes nothing", node);
    fault("the node's fault before 7", Desk.LOGIC, node, 3, node);
    d.due("7 of a signal", d.book.declare(Desk.SIGNAL, 500, 0, 0), -7);
    d.due("no place", d.book.place(), TypeBook.NONE);
    node = d.apply(100, d.number(9));
    fault("5 before 6", Desk.LOGIC, node, 5, node);
    fault("3 before 6", Desk.TRUTH, node, 3, node);
    node = d.sliceDown(100, d.number(9), d.number(6));
    fault("5 before 6 of a slice", row, node, 5, node);
    node = d.binary(Desk.QUOTIENT, d.number(1), d.number(0));
    fault("3 before 10", Desk.TRUTH, node, 3, node);
    fault("10", Desk.FROM_1, node, 10, node);
  }

  private static void wrongInputs() {
    d.fresh();
    int node = d.number(1);
    d.argument("what below", () -> d.book.declare(-1, 100, 0, 0));
    d.argument("what above", () -> d.book.declare(3, 100, 0, 77));
    d.argument("name below", () -> d.book.declare(1, -1, 0, 0));
    d.argument("name above", () -> d.book.declare(0, 10000, 2, node));
    d.index("type below", () -> d.book.declare(1, 100, -1, 0));
    d.index("type above", () -> d.book.declare(2, 100, 5, 0));
    d.index("node of a constant", () -> d.book.declare(0, 100, 2, 1));
    d.index("node of a constant", () -> d.book.declare(0, 100, 2, -1));
    d.due("objects", d.book.declare(0, 100, 2, node), 0);
  }

  private static void manyConstants() {
    d.fresh();
    int row = d.rowDown(2, 0);
    for (int i = 0; i < 30; i++) {
      d.constant(100 + i, row, d.apply(Desk.BITS, d.number(i), d.number(3)));
    }
    for (int i = 0; i < 30; i++) {
      int node = d.name(100 + i);
      d.isRow("constant " + i, node, Integer.toBinaryString(8 + i % 8).substring(1));
      d.due("its number", d.book.about(node, 3), i);
    }
  }
}
