/** Promise 14, at its edges. */
public final class Edges14Value {
  private static final int MOST = 2147483647;
  private static final Desk d = new Desk();
  private static final Refusals refusals = new Refusals(d);

  public static void main(String[] args) {
    nodes();
    notLookedAt();
    notConstant();
    elements();
    othersByAnyK();
    leastAndGreatest();
    d.end();
  }

  private static int looked(int node) {
    d.due("check", d.book.check(node, TypeBook.NONE), 0);
    return node;
  }

  /** "IndexOutOfBoundsException": there is no such node. */
  private static void nodes() {
    d.fresh();
    looked(d.number(7));
    looked(d.number(8));
    d.due("the first", d.book.value(0, 0), 7);
    d.due("the last", d.book.value(1, 0), 8);
    for (int node : new int[] {-1, Refusals.NO_NODE, Integer.MIN_VALUE, MOST}) {
      refusals.index("node " + node, () -> d.book.value(node, 0));
    }
  }

  /** "IllegalStateException when .. has not been looked at" */
  private static void notLookedAt() {
    refusals.state("an INTEGER", () -> d.number(1), node -> d.book.value(node, 0));
    refusals.state("a row", () -> d.row("01"), node -> d.book.value(node, 0));
    d.fresh();
    int node = d.number(1);
    d.book.check(node, Desk.LOGIC);
    d.state("with a fault alone", () -> d.book.value(node, 0));
    looked(node);
    d.due("without", d.book.value(node, 0), 1);
    d.book.check(node, Desk.LOGIC);
    d.due("a fault behind it changes nothing", d.book.value(node, 0), 1);
  }

  /** "IllegalStateException when it is not constant" */
  private static void notConstant() {
    refusals.state("a signal", () -> looked(d.name(Refusals.SIGNAL)), node -> d.book.value(node, 0));
    refusals.state("a variable", () -> looked(d.name(Refusals.VARIABLE)), node -> d.book.value(node, 0));
    refusals.state("a row", () -> looked(d.name(Refusals.ROW_SIGNAL)), node -> d.book.value(node, 0));
    refusals.state("an element by a variable", () -> looked(d.apply(Refusals.CONSTANT, d.name(Refusals.VARIABLE))),
        node -> d.book.value(node, 0));
    refusals.state("made of a variable",
        () -> looked(d.binary(Desk.PRODUCT, d.number(0), d.name(Refusals.VARIABLE))), node -> d.book.value(node, 0));
    d.fresh();
    d.book.declare(Desk.VARIABLE, 100, Desk.INTEGERS, 0);
    int part = d.number(4);
    looked(d.binary(Desk.SUM, part, d.name(100)));
    d.due("its constant part", d.book.value(part, 0), 4);
  }

  /** "of a row element k from the right"; "IndexOutOfBoundsException (also when a row has no such element)" */
  private static void elements() {
    d.fresh();
    int one = looked(d.row("-"));
    d.due("the only one", d.book.value(one, 0), 8);
    d.index("before it", () -> d.book.value(one, -1));
    d.index("behind it", () -> d.book.value(one, 1));
    int wide = looked(d.row("X" + "0".repeat(30) + "WL" + "1".repeat(30) + "H"));
    d.due("the first of 64", d.book.value(wide, 0), 7);
    d.due("the 31st", d.book.value(wide, 30), 3);
    d.due("the 32nd", d.book.value(wide, 31), 6);
    d.due("the 33rd", d.book.value(wide, 32), 5);
    d.due("the 34th", d.book.value(wide, 33), 2);
    d.due("the last of 64", d.book.value(wide, 63), 1);
    for (int k : new int[] {-1, 64, Integer.MIN_VALUE, MOST}) {
      d.index("element " + k, () -> d.book.value(wide, k));
    }
    for (int k : new int[] {-1, 3, 64, Integer.MIN_VALUE, MOST}) {
      refusals.index("element " + k + " of three", () -> looked(d.row("01Z")), node -> d.book.value(node, k));
    }
  }

  /** "k does not count for others" */
  private static void othersByAnyK() {
    d.fresh();
    d.enumeration(110, 111, 112);
    int[] nodes = {d.number(5), d.name(Desk.TRUE), d.sign('-'), d.name(112)};
    int[] due = {5, 1, 8, 1};
    for (int i = 0; i < nodes.length; i++) {
      looked(nodes[i]);
      for (int k : new int[] {-1, 0, 1, 64, Integer.MIN_VALUE, MOST}) {
        d.due("node " + nodes[i] + " by " + k, d.book.value(nodes[i], k), due[i]);
      }
    }
  }

  /** "INTEGER, TRUTH (1 or 0), LOGIC, a place" */
  private static void leastAndGreatest() {
    d.fresh();
    d.is("the greatest INTEGER", d.number(MOST), TypeBook.INTEGER, MOST);
    d.is("the least INTEGER", d.number(-MOST), TypeBook.INTEGER, -MOST);
    d.is("false", d.name(Desk.FALSE), TypeBook.TRUTH, 0);
    d.is("true", d.name(Desk.TRUE), TypeBook.TRUTH, 1);
    d.is("U", d.node(3, 0), TypeBook.LOGIC, 0);
    d.is("FREE", d.node(3, 8), TypeBook.LOGIC, 8);
    int[] places = new int[64];
    for (int i = 0; i < places.length; i++) {
      places[i] = 200 + i;
    }
    d.enumeration(110, places);
    d.is("the first place", d.name(200), TypeBook.ENUMERATION, 0);
    d.is("the last place", d.name(263), TypeBook.ENUMERATION, 63);
  }
}
