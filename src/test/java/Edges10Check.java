/** Promise 10, at its edges: its own words; those of the terms it rests on are in the EdgesOf... tests. */
public final class Edges10Check {
  private static final int MOST = 2147483647;
  private static final Desk d = new Desk();
  private static final Refusals refusals = new Refusals(d);

  public static void main(String[] args) {
    nodes();
    types();
    anyClass();
    classesThatDoNotGo();
    lengthsThatDoNotGo();
    outside();
    notOutside();
    faultsBelow();
    itAndAllInIt();
    d.end();
  }

  private static void fault(String what, int fault, int type, Refusals.Make make) {
    refusals.fault(what, fault, make, node -> d.book.check(node, type));
  }

  /** "IndexOutOfBoundsException": there is no such node. */
  private static void nodes() {
    d.fresh();
    d.number(7);
    d.number(8);
    d.due("the first", d.book.check(0, TypeBook.NONE), 0);
    d.due("the last", d.book.check(1, Desk.INTEGERS), 0);
    for (int node : new int[] {-1, Refusals.NO_NODE, Integer.MIN_VALUE, MOST}) {
      refusals.index("node " + node, () -> d.book.check(node, TypeBook.NONE));
      refusals.index("node " + node + " with a type", () -> d.book.check(node, Desk.TRUTH));
    }
  }

  /** "IndexOutOfBoundsException": there is no such type, and it is not NONE. */
  private static void types() {
    d.fresh();
    int sign = d.sign('1');
    int last = d.rowUp(0, 1);
    d.due("the first", d.book.check(sign, 0), 0);
    d.due("the last", d.book.check(d.row("01"), last), 0);
    for (int type : new int[] {-2, Refusals.NO_TYPE, Integer.MIN_VALUE, MOST}) {
      refusals.index("type " + type, () -> d.book.check(refusals.looked, type));
      refusals.index("type " + type + ", and a faulty node", () -> d.name(99), node -> d.book.check(node, type));
    }
  }

  /** "NONE: of any." */
  private static void anyClass() {
    d.fresh();
    d.enumeration(110, 111);
    int[] nodes = {d.sign('1'), d.name(Desk.TRUE), d.number(MOST), d.number(-MOST), d.row("1"),
        d.row("1".repeat(64)), d.name(111)};
    for (int node : nodes) {
      d.due("node " + node, d.book.check(node, TypeBook.NONE), 0);
      d.due("place", d.book.place(), TypeBook.NONE);
    }
  }

  /** "3 .. at the node when its class does not go with it" */
  private static void classesThatDoNotGo() {
    fault("LOGIC for TRUTH", 3, Desk.TRUTH, () -> d.sign('1'));
    fault("TRUTH for LOGIC", 3, Desk.LOGIC, () -> d.name(Desk.TRUE));
    fault("INTEGER for LOGIC", 3, Desk.LOGIC, () -> d.number(1));
    fault("INTEGER for a row", 3, Refusals.DOWN_TYPE, () -> d.number(1));
    fault("LOGIC for an INTEGER", 3, Desk.INTEGERS, () -> d.sign('1'));
    fault("a row of one for LOGIC", 3, Desk.LOGIC, () -> d.row("1"));
    fault("INTEGER for an ENUMERATION", 3, Refusals.COLORS_TYPE, () -> d.number(0));
    fault("another ENUMERATION", 3, Refusals.COLORS_TYPE, () -> {
      d.enumeration(120, 121);
      return d.name(121);
    });
    d.fresh();
    int first = d.enumeration(110, 111);
    int second = d.enumeration(120, 121);
    int node = d.name(111);
    d.due("its own", d.book.check(node, first), 0);
    d.fault("made alike, but another", node, second, 3, node);
    int one = d.rowDown(5, 5);
    int sign = d.sign('1');
    d.fault("LOGIC for a row of one", sign, one, 3, sign);
  }

  /** "or 4 at the node": bounds and their way do not count, lengths do. */
  private static void lengthsThatDoNotGo() {
    fault("one less", 4, Refusals.DOWN_TYPE, () -> d.row("101"));
    fault("one more", 4, Refusals.DOWN_TYPE, () -> d.row("10101"));
    fault("64", 4, Refusals.DOWN_TYPE, () -> d.row("1".repeat(64)));
    fault("a signal's slice", 4, Refusals.DOWN_TYPE,
        () -> d.node(24, Refusals.ROW_SIGNAL, d.number(2), d.number(0)));
    d.fresh();
    int[] types = {d.rowDown(3, 0), d.rowUp(0, 3), d.rowDown(MOST, MOST - 3), d.rowUp(60, 63)};
    int node = d.row("01ZX");
    for (int type : types) {
      d.due("type " + type, d.book.check(node, type), 0);
    }
    int wide = d.rowUp(0, 63);
    d.due("64 for 64", d.book.check(d.row("1".repeat(64)), wide), 0);
    int but = d.row("1".repeat(63));
    d.fault("63 for 64", but, wide, 4, but);
  }

  /** "8 when it is a constant INTEGER outside" */
  private static void outside() {
    fault("below 0", 8, Desk.FROM_0, () -> d.number(-1));
    fault("below 1", 8, Desk.FROM_1, () -> d.number(0));
    fault("one below", 8, Refusals.SMALL_TYPE, () -> d.number(1));
    fault("one above", 8, Refusals.SMALL_TYPE, () -> d.number(5));
    fault("the least", 8, Refusals.SMALL_TYPE, () -> d.number(-MOST));
    fault("the greatest", 8, Refusals.SMALL_TYPE, () -> d.number(MOST));
    fault("a computed one", 8, Refusals.SMALL_TYPE, () -> d.binary(Desk.SUM, d.number(2), d.number(3)));
    d.fresh();
    int below = d.range(-5, -3);
    int[] due = {-8, 0, 0, 0, -8};
    for (int i = 0; i < due.length; i++) {
      d.due("from -5 to -3: " + (i - 6), d.book.check(d.number(i - 6), below), due[i]);
    }
    int one = d.range(7, 7);
    d.due("below the only one", d.book.check(d.number(6), one), -8);
    d.due("the only one", d.book.check(d.number(7), one), 0);
    d.due("above the only one", d.book.check(d.number(8), one), -8);
  }

  private static void notOutside() {
    d.fresh();
    int small = d.range(2, 4);
    d.due("least", d.book.check(d.number(2), small), 0);
    d.due("greatest", d.book.check(d.number(4), small), 0);
    d.due("least of all", d.book.check(d.number(-MOST), Desk.INTEGERS), 0);
    d.due("greatest of all", d.book.check(d.number(MOST), Desk.INTEGERS), 0);
    d.due("0", d.book.check(d.number(0), Desk.FROM_0), 0);
    d.due("1", d.book.check(d.number(1), Desk.FROM_1), 0);
    d.book.declare(Desk.VARIABLE, 100, Desk.INTEGERS, 0);
    d.due("what is not constant", d.book.check(d.name(100), small), 0);
    d.due("nor this", d.book.check(d.binary(Desk.SUM, d.name(100), d.number(MOST)), small), 0);
    int part = d.number(9);
    d.due("a part does not count", d.book.check(d.binary(Desk.DIFFERENCE, part, d.number(6)), small), 0);
  }

  /** "children before their parent": what the type asks for is asked of the node itself, behind all below it. */
  private static void faultsBelow() {
    for (int type : new int[] {TypeBook.NONE, Desk.LOGIC, Desk.TRUTH, Desk.FROM_1, Refusals.DOWN_TYPE}) {
      refusals.fault("9 below, type " + type, 9, node -> node - 1,
          () -> d.unary(1, d.binary(Desk.SUM, d.number(MOST), d.number(1))), node -> d.book.check(node, type));
      refusals.fault("10 below, type " + type, 10, node -> node - 1,
          () -> d.unary(1, d.binary(Desk.QUOTIENT, d.number(1), d.number(0))), node -> d.book.check(node, type));
      refusals.fault("6 below, type " + type, 6, node -> node - 1,
          () -> d.unary(0, d.apply(Refusals.CONSTANT, d.number(4))), node -> d.book.check(node, type));
    }
  }

  /** "it and all in it get their classes, values and meanings" – and nothing that is not in it. */
  private static void itAndAllInIt() {
    d.fresh();
    d.constant(100, Desk.INTEGERS, d.number(3));
    int before = d.number(1);
    int left = d.name(100);
    int right = d.number(4);
    int node = d.binary(Desk.PRODUCT, left, right);
    int above = d.unary(1, node);
    d.due("check", d.book.check(node, TypeBook.NONE), 0);
    d.isUnknown("the tree before", before);
    d.isUnknown("what it is in", above);
    d.due("its value", d.book.value(node, 0), 12);
    d.due("the first below", d.book.value(left, 0), 3);
    d.due("its meaning", d.book.about(left, 3), 0);
    d.due("the last below", d.book.value(right, 0), 4);
  }
}
