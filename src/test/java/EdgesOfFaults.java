/** The term FAULTS: where the fault is, and which one of a node counts. */
public final class EdgesOfFaults {
  private static final int MOST = 2147483647;
  private static final Desk d = new Desk();
  private static final int ROW = 100, COUNT = 101, BIT = 102, FLAG = 103, FIXED = 104, VARIABLE = 105, TYPE = 106;
  private static int row;
  private static int small;

  public static void main(String[] args) {
    childrenBeforeTheirParent();
    fromTheLeft();
    belowAnAttribute();
    elevenFirst();
    oneAndTwo();
    argumentsBehindOneAndTwo();
    threeFourFive();
    fiveAndSix();
    eightNineTen();
    d.end();
  }

  private static void begin() {
    d.fresh();
    row = d.rowDown(3, 0);
    small = d.range(2, 4);
    d.book.declare(Desk.SIGNAL, ROW, row, 0);
    d.book.declare(Desk.SIGNAL, COUNT, Desk.INTEGERS, 0);
    d.book.declare(Desk.SIGNAL, BIT, Desk.LOGIC, 0);
    d.book.declare(Desk.SIGNAL, FLAG, Desk.TRUTH, 0);
    d.constant(FIXED, row, d.row("01ZH"));
    d.book.declare(Desk.VARIABLE, VARIABLE, Desk.TRUTH, 0);
    d.book.subtype(TYPE, row);
  }

  /** "children before their parent", whatever their faults are. */
  private static void childrenBeforeTheirParent() {
    begin();
    int child = d.binary(Desk.QUOTIENT, d.number(1), d.number(0));
    d.fault("10 below, 11 above", d.node(99, 0, child), TypeBook.NONE, 10, child);
    child = d.apply(ROW, d.number(4));
    d.fault("6 below, 3 above", d.unary(1, child), TypeBook.NONE, 6, child);
    child = d.name(99);
    d.fault("1 below, 11 above: a child too many", d.unary(77, child), TypeBook.NONE, 1, child);
    child = d.name(99);
    d.fault("1 below a NUMBER", d.node(2, 1, child), TypeBook.NONE, 1, child);
    child = d.name(99);
    d.fault("1 below a NAME of nothing", d.node(1, 98, child), TypeBook.NONE, 1, child);
    child = d.name(99);
    d.fault("1 below an APPLY of nothing", d.apply(98, child), TypeBook.NONE, 1, child);
    child = d.name(TYPE);
    d.fault("2 below rising", d.apply(Desk.RISING, child), TypeBook.NONE, 2, child);
    child = d.node(3, 9);
    d.fault("11 below a row", d.node(4, 0, child), TypeBook.NONE, 11, child);
    int bottom = d.name(99);
    int middle = d.unary(0, bottom);
    d.fault("the lowest", d.unary(77, d.unary(5, middle)), TypeBook.NONE, 1, bottom);
    int right = d.number(1);
    d.fault("none below", d.node(99, 0, right), 11);
  }

  /** "from the left": the left tree with all in it, then the right one, then their parent. */
  private static void fromTheLeft() {
    begin();
    int left = d.name(TYPE);
    d.fault("the left of two", d.binary(Desk.SUM, left, d.name(99)), TypeBook.NONE, 2, left);
    int leftTop = d.unary(1, d.sign('1'));
    d.fault("the left's top before the right's leaf", d.binary(Desk.SUM, leftTop, d.name(99)), TypeBook.NONE, 3,
        leftTop);
    d.number(1);
    int right = d.name(99);
    d.fault("the right one", d.book.add(21, 77, 2), TypeBook.NONE, 1, right);
    d.sign('1');
    int second = d.node(3, 9);
    d.node(3, 9);
    d.fault("the second of three", d.book.add(4, 0, 3), TypeBook.NONE, 11, second);
    d.sign('1');
    int last = d.name(99);
    d.fault("the last of three", d.book.add(4, 0, 2), TypeBook.NONE, 1, last);
    int other = d.name(99);
    int only = d.unary(1, d.sign('1'));
    d.fault("another tree does not count", only, 3);
    d.fault("it has its own", other, 1);
  }

  /** "what is below an ATTRIBUTE is not looked at by itself" */
  private static void belowAnAttribute() {
    begin();
    d.is("the attribute's NAME means nothing", d.attribute(ROW, 18), TypeBook.INTEGER, 4);
    d.fault("no NAME below", d.node(25, ROW, d.unary(1, d.name(99))), 11);
    d.fault("two below", d.node(25, ROW, d.name(99), d.name(98)), 11);
    d.fault("below what is below", d.node(25, ROW, d.node(1, 18, d.name(99))), 11);
    int inner = d.node(25, 99, d.name(18));
    d.fault("an ATTRIBUTE below an ATTRIBUTE", d.node(25, ROW, inner), 11);
    int attribute = d.attribute(ROW, 18);
    int right = d.name(99);
    d.fault("beside it all counts", d.binary(Desk.SUM, attribute, right), TypeBook.NONE, 1, right);
    int left = d.name(99);
    d.fault("before it too", d.binary(Desk.SUM, left, d.attribute(ROW, 14)), TypeBook.NONE, 1, left);
  }

  /** "of one node the first of 11, 1, 2, .." */
  private static void elevenFirst() {
    begin();
    d.fault("11 before 1, NAME", d.node(1, 99, d.number(1)), 11);
    d.fault("11 before 2, NAME", d.node(1, TYPE, d.number(1)), 11);
    d.fault("11 before 1, SLICE", d.node(23, 99, d.number(1)), 11);
    d.fault("11 before 2, SLICE", d.node(24, BIT, d.number(1)), 11);
    d.fault("11 before 1, ATTRIBUTE", d.attribute(99, 14), 11);
    d.fault("11 before 2, ATTRIBUTE", d.attribute(TYPE, 23), 11);
    d.fault("11 before 3, UNARY", d.node(20, 4, d.sign('1')), 11);
    d.fault("11 before 3, BINARY", d.node(21, 21, d.sign('1'), d.number(1)), 11);
    int unary = d.node(20, 4, d.number(1));
    d.fault("11 before 3, a type's", unary, Desk.TRUTH, 11, unary);
    d.fault("11 before 2, rising", d.apply(Desk.RISING, d.number(1)), 11);
  }

  private static void oneAndTwo() {
    begin();
    int name = d.name(99);
    d.fault("1 before a type's 3", name, Desk.TRUTH, 1, name);
    name = d.name(TYPE);
    d.fault("2 before a type's 3", name, Desk.TRUTH, 2, name);
    d.fault("1 before 3, SLICE", d.sliceUp(99, d.sign('1'), d.number(1)), 1);
    d.fault("2 before 3, APPLY", d.apply(BIT, d.sign('1')), 2);
    d.fault("2 before 3, SLICE", d.sliceDown(BIT, d.sign('1'), d.number(1)), 2);
    d.fault("2 before 5, SLICE", d.sliceDown(BIT, d.name(COUNT), d.number(1)), 2);
    d.fault("2 before 6, APPLY", d.apply(COUNT, d.number(9)), 2);
    d.fault("2 before 3, rising", d.apply(Desk.RISING, d.name(VARIABLE)), 2);
    d.fault("2 before 3, event", d.attribute(FIXED, 15), 2);
  }

  /** "Of APPLY another number of arguments counts behind 1 and 2." */
  private static void argumentsBehindOneAndTwo() {
    begin();
    for (int n = 0; n <= 2; n++) {
      for (int name : new int[] {99, BIT, TYPE, Desk.TRUE, 0}) {
        for (int i = 0; i < n; i++) {
          d.number(1);
        }
        d.fault(n + " of name " + name, d.book.add(22, name, n), name == 99 ? 1 : 2);
      }
    }
    d.fault("11 before 3", d.apply(ROW, d.sign('1'), d.sign('1')), 11);
    d.fault("11 before 6", d.apply(ROW, d.number(9), d.number(9)), 11);
    d.fault("11 before 3, number", d.apply(Desk.NUMBER, d.sign('1'), d.sign('1')), 11);
    d.fault("11 before 4, bits", d.apply(Desk.BITS, d.number(1), d.number(0), d.number(0)), 11);
  }

  private static void threeFourFive() {
    begin();
    int lengths = d.binary(Desk.SAME, d.row("01"), d.row("011"));
    d.fault("4", lengths, 4);
    d.fault("3 before 4", lengths, Desk.LOGIC, 3, lengths);
    d.fault("3 before 4, bits", d.apply(Desk.BITS, d.sign('1'), d.number(0)), 3);
    d.fault("3 before 5, SLICE", d.sliceDown(ROW, d.name(COUNT), d.sign('1')), 3);
    int slice = d.sliceDown(ROW, d.number(1), d.number(0));
    d.due("4 before 5", d.book.declare(Desk.CONSTANT, 200, row, slice), -4);
    d.due("3 before 5", d.book.declare(Desk.CONSTANT, 200, small, slice), -3);
    int all = d.sliceDown(ROW, d.number(3), d.number(0));
    d.due("5", d.book.declare(Desk.CONSTANT, 200, row, all), -5);
  }

  private static void fiveAndSix() {
    begin();
    d.fault("5 before 6, beyond", d.sliceDown(ROW, d.name(COUNT), d.number(9)), 5);
    d.fault("5 before 6, the other way", d.sliceUp(ROW, d.number(1), d.name(COUNT)), 5);
    d.fault("3 before 6", d.sliceUp(ROW, d.number(1), d.sign('1')), 3);
    d.fault("6", d.sliceUp(ROW, d.number(1), d.number(9)), 6);
  }

  private static void eightNineTen() {
    begin();
    int beyond = d.binary(Desk.SUM, d.number(MOST), d.number(1));
    d.fault("3 before 9", beyond, Desk.LOGIC, 3, beyond);
    d.fault("9: there is no value that could be outside", beyond, Desk.FROM_0, 9, beyond);
    int byNothing = d.binary(Desk.MODULUS, d.number(1), d.number(0));
    d.fault("3 before 10", byNothing, Desk.LOGIC, 3, byNothing);
    d.fault("10: there is no value that could be outside", byNothing, small, 10, byNothing);
    int outside = d.number(5);
    d.fault("3 before 8", outside, Desk.LOGIC, 3, outside);
    d.fault("8", outside, small, 8, outside);
  }
}
