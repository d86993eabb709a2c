/** about(): what is known of a node since it was last looked at without a fault. */
public final class Promise13About {
  public static void main(String[] args) {
    Desk d = new Desk();
    int row = d.rowDown(7, 0);
    d.book.declare(Desk.SIGNAL, 100, row, 0);
    d.book.declare(Desk.SIGNAL, 101, Desk.LOGIC, 0);
    d.constant(102, row, d.row("00001111"));
    int colors = d.enumeration(110, 111, 112);
    d.looks("row", d.name(100), TypeBook.ROW, 8, 0, 0);
    d.looks("place", d.name(112), TypeBook.ENUMERATION, colors, 1, 2000);
    d.looks("true", d.name(Desk.TRUE), TypeBook.TRUTH, 0, 1, 2000);
    d.looks("false", d.name(Desk.FALSE), TypeBook.TRUTH, 0, 1, 2000);
    d.looks("number", d.number(3), TypeBook.INTEGER, 0, 1, TypeBook.NONE);
    d.looks("sign", d.sign('Z'), TypeBook.LOGIC, 0, 1, TypeBook.NONE);
    d.looks("signs", d.row("01"), TypeBook.ROW, 2, 1, TypeBook.NONE);
    d.looks("unary", d.unary(0, d.name(100)), TypeBook.ROW, 8, 0, TypeBook.NONE);
    d.looks("binary", d.binary(Desk.SUM, d.name(102), d.name(100)), TypeBook.ROW, 8, 0, TypeBook.NONE);
    d.looks("element", d.apply(102, d.number(0)), TypeBook.LOGIC, 0, 1, 2);
    d.looks("slice", d.sliceDown(100, d.number(3), d.number(2)), TypeBook.ROW, 2, 0, 0);
    d.looks("attribute", d.attribute(100, 18), TypeBook.INTEGER, 0, 1, 0);
    d.looks("last", d.attribute(100, 17), TypeBook.ROW, 8, 0, 0);
    d.looks("function", d.apply(Desk.RISING, d.name(101)), TypeBook.TRUTH, 0, 0, 3000);
    d.looks("function", d.apply(Desk.BITS, d.number(5), d.number(3)), TypeBook.ROW, 3, 1, 3000);
    kept(d);
    d.index("node below", () -> d.book.about(-1, 0));
    d.index("node above", () -> d.book.about(5000, 0));
    d.index("part below", () -> d.book.about(0, -1));
    d.index("part above", () -> d.book.about(0, 4));
    d.end();
  }

  private static void kept(Desk d) {
    int left = d.name(101);
    int right = d.name(101);
    int node = d.binary(Desk.AND, left, right);
    d.isUnknown("never looked at", node);
    d.fault("of another type", node, Desk.TRUTH, 3, node);
    d.isUnknown("a fault tells nothing", node);
    d.isUnknown("nor of children", left);
    d.book.check(left, TypeBook.NONE);
    d.due("a part alone", d.book.about(left, 3), 1);
    d.isUnknown("its neighbour", right);
    d.looks("all", node, TypeBook.LOGIC, 0, 0, TypeBook.NONE);
    d.due("a child", d.book.about(right, 3), 1);
    d.book.enter();
    d.book.declare(Desk.VARIABLE, 101, Desk.TRUTH, 0);
    d.fault("another meaning, a fault", node, Desk.LOGIC, 3, node);
    d.due("as latest looked at without a fault", d.book.about(node, 0), TypeBook.LOGIC);
    d.due("the child too", d.book.about(right, 3), 1);
    d.looks("another meaning", node, TypeBook.TRUTH, 0, 0, TypeBook.NONE);
    d.due("the child too", d.book.about(right, 3), 3);
    int attribute = d.attribute(100, 15);
    d.looks("event", attribute, TypeBook.TRUTH, 0, 0, 0);
    d.isUnknown("below an ATTRIBUTE", attribute - 1);
  }
}
