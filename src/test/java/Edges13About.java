/** Promise 13, at its edges. */
public final class Edges13About {
  private static final Desk d = new Desk();
  private static final Refusals refusals = new Refusals(d);

  public static void main(String[] args) {
    nodes();
    parts();
    never();
    latestWithoutAFault();
    rowsLookedAtAgain();
    byTypeAndDeclare();
    lengths();
    meanings();
    d.end();
  }

  /** "IndexOutOfBoundsException": there is no such node. */
  private static void nodes() {
    d.fresh();
    d.number(7);
    d.sign('1');
    d.book.check(0, TypeBook.NONE);
    d.book.check(1, TypeBook.NONE);
    d.due("the first", d.book.about(0, 0), TypeBook.INTEGER);
    d.due("the last", d.book.about(1, 0), TypeBook.LOGIC);
    for (int node : new int[] {-1, Refusals.NO_NODE, Integer.MIN_VALUE, Integer.MAX_VALUE}) {
      for (int what = 0; what < 4; what++) {
        int part = what;
        refusals.index("node " + node, () -> d.book.about(node, part));
      }
    }
  }

  /** "IndexOutOfBoundsException (also for another what)": of nodes that were looked at and of others. */
  private static void parts() {
    for (int what : new int[] {-1, 4, Integer.MIN_VALUE, Integer.MAX_VALUE}) {
      refusals.index("part " + what, () -> d.book.about(refusals.looked, what));
      refusals.index("part " + what + ", never looked at", () -> d.number(1), node -> d.book.about(node, what));
    }
  }

  /** "NONE for all if never since it was made" */
  private static void never() {
    d.fresh();
    int node = d.number(7);
    d.isUnknown("a new one", node);
    d.book.type(node);
    d.book.enumeration(node);
    d.book.check(node, Desk.LOGIC);
    d.book.declare(Desk.CONSTANT, 100, Desk.LOGIC, node);
    d.isUnknown("looked at with a fault alone", node);
    d.book.declare(Desk.SIGNAL, 100, Desk.INTEGERS, node);
    d.isUnknown("a signal has no node", node);
    d.book.declare(Desk.CONSTANT, 100, Desk.INTEGERS, node);
    d.isUnknown("7 is a fault", node);
    d.looks("now", node, TypeBook.INTEGER, 0, 1, TypeBook.NONE);
    d.book.clear();
    d.number(7);
    d.isUnknown("another one by the number of one that went", node);
  }

  /** "as latest looked at without a fault" */
  private static void latestWithoutAFault() {
    d.fresh();
    d.book.declare(Desk.SIGNAL, 100, Desk.INTEGERS, 0);
    int name = d.name(100);
    int node = d.unary(3, name);
    d.looks("first", node, TypeBook.INTEGER, 0, 0, TypeBook.NONE);
    d.book.enter();
    d.constant(100, Desk.INTEGERS, d.number(-9));
    d.due("not looked at again", d.book.about(node, 2), 0);
    d.due("nor its part", d.book.about(name, 3), 0);
    d.due("with a fault", d.book.check(node, Desk.LOGIC), -3);
    d.due("a fault does not count", d.book.about(node, 2), 0);
    d.due("nor for its part", d.book.about(name, 3), 0);
    d.due("the part alone", d.book.check(name, Desk.INTEGERS), 0);
    d.due("it is constant now", d.book.about(name, 2), 1);
    d.due("what it is in is not", d.book.about(node, 2), 0);
    d.looks("again", node, TypeBook.INTEGER, 0, 1, TypeBook.NONE);
    d.due("its value", d.book.value(node, 0), 9);
    d.book.leave();
    d.due("the scope is gone", d.book.about(name, 3), 1);
    d.looks("and again", node, TypeBook.INTEGER, 0, 0, TypeBook.NONE);
    d.state("it has no value any more", () -> d.book.value(node, 0));
    d.due("its part", d.book.about(name, 3), 0);
  }

  /** A row that is looked at again, where its names mean other rows, has nothing of its old elements. */
  private static void rowsLookedAtAgain() {
    d.fresh();
    int type = d.rowDown(3, 0);
    int other = d.rowUp(0, 2);
    d.constant(100, type, d.row("HHHH"));
    int[] nodes = {d.unary(0, d.name(100)), d.binary(Desk.XOR, d.name(100), d.name(100)),
        d.binary(Desk.JOINED, d.name(100), d.name(100)), d.binary(Desk.LEFT, d.name(100), d.number(1)),
        d.binary(Desk.SUM, d.name(100), d.name(100))};
    checkRows(nodes, "0000", "0000", "HHHHHHHH", "HHH0", "1110");
    d.book.enter();
    d.constant(100, type, d.row("UX0Z"));
    checkRows(nodes, "UX1X", "UX0X", "UX0ZUX0Z", "X0Z0", "XXXX");
    d.book.enter();
    d.constant(100, other, d.row("0L1"));
    checkRows(nodes, "110", "000", "0L10L1", "L10", "010");
    d.book.leave();
    checkRows(nodes, "UX1X", "UX0X", "UX0ZUX0Z", "X0Z0", "XXXX");
  }

  private static void checkRows(int[] nodes, String... due) {
    for (int i = 0; i < nodes.length; i++) {
      d.isRow("row " + i, nodes[i], due[i]);
    }
  }

  /** "by check(), type(), declare()" */
  private static void byTypeAndDeclare() {
    d.fresh();
    int low = d.number(1);
    int high = d.number(2);
    int range = d.node(11, 0, low, high);
    int behind = d.number(3);
    d.book.type(range);
    d.due("by type", d.book.about(low, 0), TypeBook.INTEGER);
    d.due("by type", d.book.about(high, 0), TypeBook.INTEGER);
    d.isUnknown("not in it", behind);
    int sign = d.sign('Z');
    int node = d.unary(0, sign);
    d.book.declare(Desk.CONSTANT, 100, Desk.LOGIC, node);
    d.due("by declare", d.book.about(node, 0), TypeBook.LOGIC);
    d.due("by declare, below", d.book.value(sign, 0), 4);
    int place = d.name(111);
    d.book.enumeration(d.node(53, 110, place));
    d.isUnknown("not by enumeration", place);
  }

  /** "1 its length (a row's) or its ENUMERATION's type, 0 for others" */
  private static void lengths() {
    d.fresh();
    d.looks("one", d.row("1"), TypeBook.ROW, 1, 1, TypeBook.NONE);
    d.looks("64", d.row("1".repeat(64)), TypeBook.ROW, 64, 1, TypeBook.NONE);
    int type = d.enumeration(110, 111);
    d.looks("a place", d.name(111), TypeBook.ENUMERATION, type, 1, 2000);
    d.looks("LOGIC", d.sign('1'), TypeBook.LOGIC, 0, 1, TypeBook.NONE);
    d.looks("TRUTH", d.name(Desk.TRUE), TypeBook.TRUTH, 0, 1, 2000);
    d.looks("INTEGER", d.number(64), TypeBook.INTEGER, 0, 1, TypeBook.NONE);
  }

  /** "3 what its name means": the first object is 0, which is not NONE. */
  private static void meanings() {
    d.fresh();
    int row = d.rowDown(1, 0);
    d.book.declare(Desk.SIGNAL, 100, row, 0);
    d.book.declare(Desk.SIGNAL, 101, Desk.LOGIC, 0);
    d.looks("the first object", d.name(100), TypeBook.ROW, 2, 0, 0);
    d.looks("its element", d.apply(100, d.number(0)), TypeBook.LOGIC, 0, 0, 0);
    d.looks("its slice", d.sliceDown(100, d.number(0), d.number(0)), TypeBook.ROW, 1, 0, 0);
    d.looks("its attribute", d.attribute(100, 18), TypeBook.INTEGER, 0, 1, 0);
    d.looks("the second object", d.name(101), TypeBook.LOGIC, 0, 0, 1);
    d.looks("true", d.name(Desk.TRUE), TypeBook.TRUTH, 0, 1, 2000);
    d.looks("false", d.name(Desk.FALSE), TypeBook.TRUTH, 0, 1, 2000);
    d.looks("rising", d.apply(Desk.RISING, d.name(101)), TypeBook.TRUTH, 0, 0, 3000);
    d.looks("falling", d.apply(Desk.FALLING, d.name(101)), TypeBook.TRUTH, 0, 0, 3000);
    d.looks("number", d.apply(Desk.NUMBER, d.name(100)), TypeBook.INTEGER, 0, 0, 3000);
    d.looks("bits", d.apply(Desk.BITS, d.number(1), d.number(64)), TypeBook.ROW, 64, 1, 3000);
    d.looks("no name", d.number(100), TypeBook.INTEGER, 0, 1, TypeBook.NONE);
    d.looks("no name", d.unary(0, d.name(100)), TypeBook.ROW, 2, 0, TypeBook.NONE);
  }
}
