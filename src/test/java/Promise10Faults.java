/** check(): of several faults the one that counts, and where it is. */
public final class Promise10Faults {
  public static void main(String[] args) {
    Desk d = new Desk();
    places(d);
    ofOneNode(d);
    deep(d);
    d.end();
  }

  private static void places(Desk d) {
    int first = d.name(99);
    int node = d.binary(Desk.SUM, first, d.name(0));
    d.fault("from the left", node, TypeBook.NONE, 1, first);
    d.number(1);
    int second = d.name(0);
    node = d.book.add(21, 77, 2);
    d.fault("children before their parent", node, TypeBook.NONE, 2, second);
    int below = d.binary(Desk.SUM, d.number(1), d.sign('1'));
    node = d.binary(Desk.SUM, below, d.name(99));
    d.fault("all on the left before the right", node, TypeBook.NONE, 3, below);
    d.fault("only below the node", d.unary(1, d.number(1)), Desk.TRUTH, 3, d.book.place() + 4);
    int child = d.name(99);
    d.fault("below a kind that is no expression's", d.node(77, 0, child), TypeBook.NONE, 1, child);
    d.book.declare(Desk.SIGNAL, 100, Desk.LOGIC, 0);
    int attribute = d.attribute(100, 17);
    node = d.binary(Desk.AND, attribute, d.name(99));
    d.fault("below an ATTRIBUTE nothing is looked at", node, TypeBook.NONE, 1, node - 1);
    d.fault("by itself it is", attribute - 1, 1);
    child = d.name(99);
    d.fault("below a row", d.node(4, 0, d.number(1), child), TypeBook.NONE, 1, child);
    child = d.node(3, 1, d.number(1));
    d.fault("a sign with a child", d.node(4, 0, child), TypeBook.NONE, 11, child);
  }

  private static void ofOneNode(Desk d) {
    d.fresh();
    int row = d.rowDown(3, 0);
    d.book.declare(Desk.SIGNAL, 100, row, 0);
    d.book.declare(Desk.SIGNAL, 101, Desk.INTEGERS, 0);
    int beyond = d.binary(Desk.PRODUCT, d.number(2147483647), d.number(2));
    d.fault("3 before 9", beyond, row, 3, beyond);
    d.fault("9 of its type", beyond, Desk.FROM_0, 9, beyond);
    int lengths = d.binary(Desk.AND, d.row("01"), d.row("011"));
    d.fault("3 before 4", lengths, Desk.LOGIC, 3, lengths);
    d.fault("4", lengths, row, 4, lengths);
    int place = d.apply(100, d.number(4));
    d.fault("3 before 6", place, row, 3, place);
    d.fault("6", place, Desk.LOGIC, 6, place);
    int slice = d.sliceDown(100, d.name(101), d.number(9));
    d.fault("5 before 6", slice, row, 5, slice);
    d.fault("3 before 5", slice, Desk.TRUTH, 3, slice);
    int compared = d.binary(Desk.LESS, d.row("01"), d.row("011"));
    d.fault("3 before 4 where the answer is no row", compared, Desk.FROM_1, 3, compared);
    int outside = d.number(0);
    d.fault("8", outside, Desk.FROM_1, 8, outside);
    d.fault("3 before 8", outside, Desk.LOGIC, 3, outside);
  }

  private static void deep(Desk d) {
    d.fresh();
    int node = d.name(99);
    for (int i = 0; i < 400; i++) {
      node = d.unary(2, node);
    }
    d.fault("400 deep", node, TypeBook.NONE, 1, 0);
  }
}
