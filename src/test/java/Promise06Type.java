/** type(): named types, ranges, rows, and their faults. */
public final class Promise06Type {
  private static final Desk d = new Desk();

  public static void main(String[] args) {
    named();
    ranges();
    rows();
    faultsOfBounds();
    changes();
    d.end();
  }

  private static void fault(String what, int node, int fault, int at) {
    d.due(what, d.book.type(node), -fault);
    d.due(what + ": place", d.book.place(), at);
  }

  private static void fault(String what, int node, int fault) {
    fault(what, node, fault, node);
  }

  private static void named() {
    int[] types = {2, 3, 4, 1, 0};
    for (int name = 0; name < types.length; name++) {
      d.due("name " + name, d.book.type(d.node(10, name)), types[name]);
      d.due("place", d.book.place(), TypeBook.NONE);
    }
    fault("rows without bounds", d.node(10, 5), 2);
    fault("true", d.node(10, 6), 2);
    fault("a function", d.node(10, 8), 2);
    fault("nothing", d.node(10, 12), 1);
    fault("an attribute", d.node(10, 18), 1);
    fault("with a child", d.node(10, 0, d.number(1)), 11);
    fault("with a child that is wrong", d.node(10, 0, d.name(99)), 1, d.book.place() + 1);
    d.book.declare(Desk.SIGNAL, 100, Desk.LOGIC, 0);
    fault("an object", d.node(10, 100), 2);
    d.book.subtype(101, Desk.FROM_1);
    d.due("a declared one", d.book.type(d.node(10, 101)), Desk.FROM_1);
    d.index("below", () -> d.book.type(-1));
    d.index("above", () -> d.book.type(9999));
    fault("no type's kind", d.number(1), 11);
    fault("no type's kind", d.node(14, 0), 11);
    fault("no type's kind", d.node(9, 0), 11);
    fault("an ATTRIBUTE", d.attribute(100, 15), 11);
  }

  private static void ranges() {
    d.fresh();
    d.due("new", d.range(-3, 9), 5);
    d.due("each its own", d.range(-3, 9), 6);
    d.due("class", d.book.typeOf(5, 0), TypeBook.INTEGER);
    d.due("least", d.book.typeOf(5, 1), -3);
    d.due("greatest", d.book.typeOf(5, 2), 9);
    d.due("one value", d.range(4, 4), 7);
    d.due("all", d.range(-2147483647, 2147483647), 8);
    fault("low above high", d.node(11, 0, d.number(5), d.number(4)), 8);
    fault("another value", d.node(11, 1, d.number(5), d.number(4)), 2);
    fault("one child", d.node(11, 0, d.number(5)), 11);
    fault("three children", d.node(11, 5, d.number(5), d.number(6), d.number(7)), 11);
    d.due("faults made no type", d.range(1, 2), 9);
  }

  private static void rows() {
    d.fresh();
    d.due("down", d.rowDown(7, 0), 5);
    d.due("up", d.rowUp(2, 5), 6);
    d.due("of one", d.rowDown(3, 3), 7);
    d.due("goes down", d.book.typeOf(7, 4), 1);
    d.due("of one, up", d.rowUp(3, 3), 8);
    d.due("goes up", d.book.typeOf(8, 4), 0);
    d.due("of 64 at the end", d.rowUp(2147483584, 2147483647), 9);
    d.due("64", d.book.typeOf(9, 3), 64);
    fault("65", d.node(12, 5, d.number(0), d.number(64)), 4);
    fault("65, and below 0", d.node(13, 5, d.number(10), d.number(-54)), 4);
    fault("many", d.node(13, 5, d.number(2147483647), d.number(-2147483647)), 4);
    fault("below 0", d.node(13, 5, d.number(10), d.number(-1)), 6);
    fault("both below 0", d.node(12, 5, d.number(-5), d.number(-5)), 6);
    fault("none", d.node(12, 5, d.number(5), d.number(4)), 6);
    fault("none", d.node(13, 5, d.number(4), d.number(5)), 6);
    fault("far from any", d.node(12, 5, d.number(2147483647), d.number(-2147483647)), 6);
    fault("another value", d.node(12, 0, d.number(5), d.number(4)), 2);
    fault("another value", d.node(13, -1, d.number(5), d.number(4)), 2);
    fault("no children", d.node(13, 5), 11);
  }

  private static void faultsOfBounds() {
    d.fresh();
    d.book.declare(Desk.SIGNAL, 100, Desk.INTEGERS, 0);
    d.book.declare(Desk.SIGNAL, 101, Desk.TRUTH, 0);
    fault("no constant", d.node(11, 0, d.name(100), d.number(4)), 5);
    fault("no constant", d.node(12, 5, d.number(4), d.name(100)), 5);
    fault("classes before constants", d.node(12, 5, d.name(100), d.name(101)), 3);
    fault("another class", d.node(11, 0, d.sign('1'), d.number(4)), 3);
    fault("the value before classes", d.node(11, 3, d.sign('1'), d.number(4)), 2);
    int wrong = d.name(99);
    fault("a bound's own fault", d.node(11, 3, wrong, d.name(98)), 1, wrong);
    d.due("nodes below are looked at as expressions", d.book.type(d.node(11, 0, d.node(10, 0), d.number(1))), -11);
  }

  private static void changes() {
    d.fresh();
    int low = d.number(1);
    int high = d.binary(Desk.SUM, d.number(2), d.number(3));
    int node = d.node(11, 0, low, high);
    d.isUnknown("before", high);
    d.due("type", d.book.type(node), 5);
    d.due("bounds are looked at", d.book.about(high, 0), TypeBook.INTEGER);
    d.due("and have values", d.book.value(high, 0), 5);
    low = d.number(1);
    high = d.number(0);
    fault("a fault", d.node(11, 0, low, high), 8);
    d.isUnknown("changes nothing", low);
    d.isUnknown("changes nothing", high);
  }
}
