/** Promise 9, at its edges. */
public final class Edges09Declare {
  private static final int MOST = 2147483647;
  private static final Desk d = new Desk();
  private static final Refusals refusals = new Refusals(d);

  public static void main(String[] args) {
    whats();
    names();
    types();
    nodesOfConstants();
    nodesOfOthers();
    classesAndLengths();
    constantOnly();
    outside();
    taken();
    whichExceptionFirst();
    fullOfNames();
    fullOfObjects();
    d.end();
  }

  private static void fault(String what, int fault, int type, Refusals.Make make) {
    refusals.fault(what, fault, make, node -> d.book.declare(Desk.CONSTANT, Refusals.FREE, type, node));
  }

  /** "what = 0 a constant, 1 a signal, 2 a variable"; "IllegalArgumentException when what .. is none" */
  private static void whats() {
    d.fresh();
    int node = d.number(7);
    d.due("constant", d.book.declare(0, 100, Desk.INTEGERS, node), 0);
    d.due("signal", d.book.declare(1, 101, Desk.INTEGERS, node), 1);
    d.due("variable", d.book.declare(2, 102, Desk.INTEGERS, node), 2);
    d.looks("a constant is constant", d.name(100), TypeBook.INTEGER, 0, 1, 0);
    d.looks("a signal is not", d.name(101), TypeBook.INTEGER, 0, 0, 1);
    d.looks("a variable is not", d.name(102), TypeBook.INTEGER, 0, 0, 2);
    d.looks("a signal has events", d.attribute(101, 15), TypeBook.TRUTH, 0, 0, 1);
    d.fault("a variable has none", d.attribute(102, 15), 2);
    for (int what : new int[] {-1, 3, Integer.MIN_VALUE, MOST}) {
      refusals.argument("what " + what, () -> d.book.declare(what, Refusals.FREE, Desk.TRUTH, refusals.looked));
    }
  }

  /** "IllegalArgumentException when .. the name is none" */
  private static void names() {
    d.fresh();
    int node = d.number(7);
    d.due("the least", d.book.declare(Desk.CONSTANT, 0, Desk.INTEGERS, node), 0);
    d.due("the greatest", d.book.declare(Desk.SIGNAL, 9999, Desk.INTEGERS, node), 1);
    d.is("the least means it", d.name(0), TypeBook.INTEGER, 7);
    d.looks("the greatest means it", d.name(9999), TypeBook.INTEGER, 0, 0, 1);
    for (int what = 0; what < 3; what++) {
      for (int name : new int[] {-1, 10000, Integer.MIN_VALUE, MOST}) {
        int of = what;
        refusals.argument("name " + name, () -> d.book.declare(of, name, Desk.TRUTH, refusals.looked));
      }
    }
  }

  /** "IndexOutOfBoundsException": there is no such type; NONE is none either. */
  private static void types() {
    d.fresh();
    int last = d.rowUp(0, 1);
    d.due("the first", d.book.declare(Desk.SIGNAL, 100, 0, 0), 0);
    d.due("the last", d.book.declare(Desk.SIGNAL, 101, last, 0), 1);
    d.looks("of the first", d.name(100), TypeBook.LOGIC, 0, 0, 0);
    d.looks("of the last", d.name(101), TypeBook.ROW, 2, 0, 1);
    for (int what = 0; what < 3; what++) {
      for (int type : new int[] {TypeBook.NONE, Refusals.NO_TYPE, Integer.MIN_VALUE, MOST}) {
        int of = what;
        refusals.index("type " + type, () -> d.book.declare(of, Refusals.FREE, type, refusals.looked));
      }
    }
  }

  /** "IndexOutOfBoundsException (the node's only for a constant)" */
  private static void nodesOfConstants() {
    d.fresh();
    d.number(7);
    d.number(8);
    d.due("the first", d.book.declare(Desk.CONSTANT, 100, Desk.INTEGERS, 0), 0);
    d.due("the last", d.book.declare(Desk.CONSTANT, 101, Desk.INTEGERS, 1), 1);
    d.is("value of the first", d.name(100), TypeBook.INTEGER, 7);
    d.is("value of the last", d.name(101), TypeBook.INTEGER, 8);
    for (int node : new int[] {-1, Refusals.NO_NODE, Integer.MIN_VALUE, MOST}) {
      refusals.index("node " + node, () -> d.book.declare(Desk.CONSTANT, Refusals.FREE, Desk.TRUTH, node));
    }
  }

  private static void nodesOfOthers() {
    d.fresh();
    int due = 0;
    for (int node : new int[] {-1, 0, 1, Integer.MIN_VALUE, MOST}) {
      d.due("signal", d.book.declare(Desk.SIGNAL, 100 + due, Desk.LOGIC, node), due++);
      d.due("variable", d.book.declare(Desk.VARIABLE, 100 + due, Desk.LOGIC, node), due++);
    }
    int wrong = d.name(99);
    d.due("a wrong node", d.book.declare(Desk.SIGNAL, 200, Desk.LOGIC, wrong), due++);
    int right = d.sign('1');
    d.due("a right node", d.book.declare(Desk.VARIABLE, 201, Desk.LOGIC, right), due);
    d.isUnknown("is not looked at", right);
  }

  /** "which is looked at as by check()": 3 and 4. */
  private static void classesAndLengths() {
    fault("another class", 3, Desk.TRUTH, () -> d.sign('1'));
    fault("one element is no LOGIC", 3, Desk.LOGIC, () -> d.row("1"));
    fault("another ENUMERATION", 3, Refusals.COLORS_TYPE, () -> d.number(0));
    fault("one less", 4, Refusals.DOWN_TYPE, () -> d.row("101"));
    fault("one more", 4, Refusals.DOWN_TYPE, () -> d.row("10101"));
    refusals.fault("a fault below", 1, node -> node - 1, () -> d.unary(0, d.name(99)),
        node -> d.book.declare(Desk.CONSTANT, Refusals.FREE, Desk.TRUTH, node));
    refusals.fault("a fault below before the node's own", 6, node -> node - 1,
        () -> d.unary(0, d.apply(Refusals.ROW_SIGNAL, d.number(4))),
        node -> d.book.declare(Desk.CONSTANT, Refusals.FREE, Desk.INTEGERS, node));
    d.fresh();
    int wide = d.rowDown(63, 0);
    d.due("64", d.book.declare(Desk.CONSTANT, 100, wide, d.row("UX01ZWLH".repeat(8))), 0);
    d.isRow("all of them", d.name(100), "UX01ZWLH".repeat(8));
    int one = d.rowUp(9, 9);
    d.due("1", d.book.declare(Desk.CONSTANT, 101, one, d.row("Z")), 1);
    d.isRow("it alone", d.name(101), "Z");
  }

  /** "5 at it when it is not constant, behind 3 and 4" */
  private static void constantOnly() {
    fault("a variable", 5, Desk.INTEGERS, () -> d.name(Refusals.VARIABLE));
    fault("in a part", 5, Desk.INTEGERS, () -> d.binary(Desk.SUM, d.number(1), d.name(Refusals.VARIABLE)));
    fault("3 before 5", 3, Desk.LOGIC, () -> d.name(Refusals.VARIABLE));
    fault("a row signal", 5, Refusals.DOWN_TYPE, () -> d.name(Refusals.ROW_SIGNAL));
    fault("4 before 5", 4, Refusals.DOWN_TYPE, () -> d.node(24, Refusals.ROW_SIGNAL, d.number(3), d.number(1)));
    fault("not outside by what is not constant", 5, Refusals.SMALL_TYPE, () -> d.name(Refusals.VARIABLE));
  }

  /** 8: "a constant value outside its type" */
  private static void outside() {
    int[][] types = {{Desk.FROM_0, 0, MOST}, {Desk.FROM_1, 1, MOST}, {Desk.INTEGERS, -MOST, MOST}};
    for (int[] type : types) {
      d.fresh();
      d.due("least", d.book.declare(Desk.CONSTANT, 100, type[0], d.number(type[1])), 0);
      d.due("greatest", d.book.declare(Desk.CONSTANT, 101, type[0], d.number(type[2])), 1);
      d.is("it", d.name(100), TypeBook.INTEGER, type[1]);
      d.is("it", d.name(101), TypeBook.INTEGER, type[2]);
    }
    fault("below 0", 8, Desk.FROM_0, () -> d.number(-1));
    fault("below 1", 8, Desk.FROM_1, () -> d.number(0));
    d.fresh();
    int small = d.range(2, 4);
    d.due("least", d.book.declare(Desk.CONSTANT, 100, small, d.number(2)), 0);
    d.due("greatest", d.book.declare(Desk.CONSTANT, 101, small, d.number(4)), 1);
    fault("one below", 8, Refusals.SMALL_TYPE, () -> d.number(1));
    fault("one above", 8, Refusals.SMALL_TYPE, () -> d.number(5));
    fault("far below", 8, Refusals.SMALL_TYPE, () -> d.number(-MOST));
    fault("far above", 8, Refusals.SMALL_TYPE, () -> d.number(MOST));
  }

  /** "a fault (of the node; then 7)"; the place of 7 is NONE. */
  private static void taken() {
    for (int name : new int[] {Refusals.SMALL, Refusals.ROW_SIGNAL, Refusals.RED}) {
      for (int what = 0; what < 3; what++) {
        int of = what;
        refusals.fault("7, name " + name, 7, node -> TypeBook.NONE, () -> d.name(Desk.TRUE),
            node -> d.book.declare(of, name, Desk.TRUTH, node));
      }
    }
    refusals.fault("8 before 7", 8, () -> d.number(5),
        node -> d.book.declare(Desk.CONSTANT, Refusals.SMALL, Refusals.SMALL_TYPE, node));
    refusals.fault("5 before 7", 5, () -> d.name(Refusals.VARIABLE),
        node -> d.book.declare(Desk.CONSTANT, Refusals.SMALL, Desk.INTEGERS, node));
    d.fresh();
    d.book.declare(Desk.SIGNAL, 100, Desk.LOGIC, 0);
    d.book.enter();
    d.due("what an outer scope has", d.book.declare(Desk.SIGNAL, 100, Desk.LOGIC, 0), 1);
    d.due("what the beginning has", d.book.declare(Desk.SIGNAL, 0, Desk.LOGIC, 0), 2);
    d.due("an attribute's name", d.book.declare(Desk.SIGNAL, 15, Desk.LOGIC, 0), 3);
  }

  /** An exception goes before any fault. */
  private static void whichExceptionFirst() {
    refusals.argument("no name, and a faulty node", () -> d.name(99),
        node -> d.book.declare(Desk.CONSTANT, 10000, Desk.TRUTH, node));
    refusals.index("no type, and a faulty node", () -> d.name(99),
        node -> d.book.declare(Desk.CONSTANT, Refusals.FREE, Refusals.NO_TYPE, node));
    refusals.index("no type, and a name that is there",
        () -> d.book.declare(Desk.SIGNAL, Refusals.SMALL, Refusals.NO_TYPE, 0));
  }

  /** "IllegalStateException when there would be more than .. 3000 names": 2925 names by 45 enumerations of 65. */
  private static void fullOfNames() {
    d.fresh();
    int[] nodes = new int[2];
    for (int half = 0; half < 2; half++) {
      for (int i = 0; i < 64; i++) {
        d.name(1000 + half * 64 + i);
      }
      nodes[half] = d.book.add(53, 2000 + half, 64);
    }
    for (int i = 0; i < 45; i++) {
      d.book.enumeration(nodes[i % 2]);
      if (i % 2 == 1) {
        d.book.enter();
      }
    }
    for (int i = 2926; i <= 3000; i++) {
      d.due("name " + i, d.book.declare(Desk.VARIABLE, i, Desk.LOGIC, 0), i - 2926);
    }
    int node = d.number(5);
    int signal = d.name(2926);
    d.stateKeepsPlace("the 3001st, a signal", () -> d.book.declare(Desk.SIGNAL, 3001, Desk.LOGIC, 0));
    d.stateKeepsPlace("the 3001st, a constant", () -> d.book.declare(Desk.CONSTANT, 3001, Desk.INTEGERS, node));
    d.isUnknown("what throws tells nothing", node);
    d.due("a fault is told though there is no room", d.book.declare(Desk.CONSTANT, 3001, Desk.LOGIC, node), -3);
    d.due("not constant", d.book.declare(Desk.CONSTANT, 3001, Desk.LOGIC, signal), -5);
    d.due("7", d.book.declare(Desk.SIGNAL, 3000, Desk.LOGIC, 0), -7);
    d.fault("the 3001st is not there", d.name(3001), 1);
    d.book.leave();
    d.due("names that went with their scope are not counted", d.book.declare(Desk.SIGNAL, 3001, Desk.LOGIC, 0), 75);
  }

  /** "more than 2000 objects": beyond 512 calls, so answers are free there. */
  private static void fullOfObjects() {
    d.fresh();
    int node = d.number(5);
    for (int i = 0; i < 1999; i++) {
      d.book.declare(i % 2 + 1, 100 + i, Desk.LOGIC, 0);
    }
    d.due("the 2000th", d.book.declare(Desk.CONSTANT, 9000, Desk.INTEGERS, node), 1999);
    d.stateKeepsPlace("the 2001st", () -> d.book.declare(Desk.SIGNAL, 9001, Desk.LOGIC, 0));
    d.state("the 2001st", () -> d.book.declare(Desk.CONSTANT, 9001, Desk.INTEGERS, node));
    d.due("7", d.book.declare(Desk.SIGNAL, 9000, Desk.LOGIC, 0), -7);
    d.looks("the 2000th is there", d.name(9000), TypeBook.INTEGER, 0, 1, 1999);
    d.fault("the 2001st is not", d.name(9001), 1);
    d.due("names have room", d.book.subtype(9001, 0), 0);
  }
}
