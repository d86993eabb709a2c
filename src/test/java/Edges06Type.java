/** Promise 6 and the terms TYPES, at their edges. */
public final class Edges06Type {
  private static final int MOST = 2147483647;
  private static final Desk d = new Desk();
  private static final Refusals refusals = new Refusals(d);

  public static void main(String[] args) {
    nodes();
    kinds();
    numbersOfChildren();
    names();
    values();
    lowAboveHigh();
    atMost64();
    from0On();
    oneAtLeast();
    lengthBeforeBounds();
    constantIntegers();
    full();
    d.end();
  }

  private static void fault(String what, int fault, Refusals.Make make) {
    refusals.fault(what, fault, make, node -> d.book.type(node));
  }

  private static int bounds(int kind, int left, int right) {
    return d.node(kind, kind == 11 ? 0 : 5, d.number(left), d.number(right));
  }

  private static void right(String what, int kind, int left, int right, int count) {
    d.fresh();
    d.due(what, d.book.type(bounds(kind, left, right)), 5);
    d.due(what + ": place", d.book.place(), TypeBook.NONE);
    int[] due = {kind == 11 ? TypeBook.INTEGER : TypeBook.ROW, left, right, count, kind == 13 ? 1 : 0};
    for (int part = 0; part < due.length; part++) {
      d.due(what + ": part " + part, d.book.typeOf(5, part), due[part]);
    }
    d.index(what + ": one type", () -> d.book.typeOf(6, 0));
  }

  /** "IndexOutOfBoundsException" */
  private static void nodes() {
    d.fresh();
    d.due("the first", d.book.type(d.node(10, 0)), 2);
    d.due("the last", d.book.type(d.node(10, 4)), 0);
    for (int node : new int[] {-1, Refusals.NO_NODE, Integer.MIN_VALUE, MOST}) {
      refusals.index("node " + node, () -> d.book.type(node));
    }
  }

  /** "a node of kind 10 to 13" */
  private static void kinds() {
    for (int kind : new int[] {0, 1, 2, 9, 14, 20, 53, 99}) {
      fault("kind " + kind, 11, () -> d.node(kind, kind == 1 ? Refusals.VARIABLE : 0));
    }
    fault("kind 9, made like a range", 11, () -> d.node(9, 0, d.number(1), d.number(2)));
    fault("kind 14, made like a row", 11, () -> d.node(14, 5, d.number(2), d.number(1)));
  }

  /** 11: "has not so many children as its kind" */
  private static void numbersOfChildren() {
    fault("TYPE with one", 11, () -> d.node(10, 0, d.number(1)));
    for (int kind = 11; kind <= 13; kind++) {
      int k = kind;
      int value = kind == 11 ? 0 : 5;
      fault("none", 11, () -> d.node(k, value));
      fault("one", 11, () -> d.node(k, value, d.number(1)));
      fault("three", 11, () -> d.node(k, value, d.number(1), d.number(1), d.number(1)));
    }
  }

  /** "TYPE (name): 0 to 4, or a declared one"; "5 rows (no type without bounds)" */
  private static void names() {
    d.fresh();
    int[] due = {2, 3, 4, 1, 0};
    for (int name = 0; name <= 4; name++) {
      d.due("name " + name, d.book.type(d.node(10, name)), due[name]);
    }
    d.index("none of them is a new type", () -> d.book.typeOf(5, 0));
    d.book.subtype(9999, Desk.FROM_1);
    d.due("the greatest name", d.book.type(d.node(10, 9999)), Desk.FROM_1);
    for (int name = 5; name <= 11; name++) {
      int of = name;
      fault("name " + name, 2, () -> d.node(10, of));
    }
    for (int name : new int[] {12, 14, 15, 22, 23, 9999}) {
      fault("name " + name, 1, () -> d.node(10, name));
    }
    for (int name : new int[] {Refusals.CONSTANT, Refusals.SIGNAL, Refusals.VARIABLE, Refusals.RED}) {
      fault("name " + name, 2, () -> d.node(10, name));
    }
  }

  /** "Another value of 11, 12, 13: 2." */
  private static void values() {
    for (int value : new int[] {-1, 1, 5, Refusals.SMALL, Integer.MIN_VALUE, MOST}) {
      fault("RANGE of " + value, 2, () -> d.node(11, value, d.number(1), d.number(2)));
    }
    for (int value : new int[] {-1, 0, 4, 6, Refusals.SMALL, Integer.MIN_VALUE, MOST}) {
      fault("ROW UP of " + value, 2, () -> d.node(12, value, d.number(1), d.number(2)));
      fault("ROW DOWN of " + value, 2, () -> d.node(13, value, d.number(2), d.number(1)));
    }
    fault("2 before 3", 2, () -> d.node(11, 1, d.sign('1'), d.number(2)));
    fault("2 before 8", 2, () -> d.node(11, 5, d.number(2), d.number(1)));
    fault("11 before 2", 11, () -> d.node(11, 5, d.number(2)));
  }

  /** "8 if low is above high" */
  private static void lowAboveHigh() {
    right("low is high", 11, 4, 4, 0);
    right("one below", 11, 3, 4, 0);
    right("all", 11, -MOST, MOST, 0);
    right("the greatest alone", 11, MOST, MOST, 0);
    right("the least alone", 11, -MOST, -MOST, 0);
    fault("one above", 8, () -> bounds(11, 5, 4));
    fault("far above", 8, () -> bounds(11, MOST, -MOST));
    fault("above, below 0", 8, () -> bounds(11, -1, -2));
  }

  /** "at most 64 elements (4)" */
  private static void atMost64() {
    right("64 up", 12, 0, 63, 64);
    right("64 down", 13, 63, 0, 64);
    right("64 at the end, up", 12, MOST - 63, MOST, 64);
    right("64 at the end, down", 13, MOST, MOST - 63, 64);
    fault("65 up", 4, () -> bounds(12, 0, 64));
    fault("65 down", 4, () -> bounds(13, 64, 0));
    fault("65 at the end, up", 4, () -> bounds(12, MOST - 64, MOST));
    fault("65 at the end, down", 4, () -> bounds(13, MOST, MOST - 64));
    fault("all there are, up", 4, () -> bounds(12, 0, MOST));
    fault("all there are, down", 4, () -> bounds(13, MOST, 0));
  }

  /** "0 .. 2147483647 each .. (6)" */
  private static void from0On() {
    right("0 up", 12, 0, 3, 4);
    right("0 down", 13, 3, 0, 4);
    right("the end", 12, MOST, MOST, 1);
    fault("left below 0", 6, () -> bounds(12, -1, 3));
    fault("right below 0", 6, () -> bounds(13, 3, -1));
    fault("both below 0, up", 6, () -> bounds(12, -2, -1));
    fault("both below 0, down", 6, () -> bounds(13, -1, -2));
    fault("the least", 6, () -> bounds(12, -MOST, -MOST));
  }

  /** "one element at least (6)" */
  private static void oneAtLeast() {
    right("one up", 12, 5, 5, 1);
    right("one down", 13, 5, 5, 1);
    fault("none up", 6, () -> bounds(12, 5, 4));
    fault("none down", 6, () -> bounds(13, 4, 5));
    fault("far from any, up", 6, () -> bounds(12, MOST, 0));
    fault("far from any, down", 6, () -> bounds(13, 0, MOST));
    fault("as far as can be, up", 6, () -> bounds(12, MOST, -MOST));
    fault("as far as can be, down", 6, () -> bounds(13, -MOST, MOST));
  }

  /** "at most 64 elements (4), then 0 .. 2147483647" */
  private static void lengthBeforeBounds() {
    fault("65, and below 0, up", 4, () -> bounds(12, -1, 63));
    fault("64, and below 0, up", 6, () -> bounds(12, -1, 62));
    fault("65, and below 0, down", 4, () -> bounds(13, 63, -1));
    fault("64, and below 0, down", 6, () -> bounds(13, 62, -1));
    fault("as many as can be, up", 4, () -> bounds(12, -MOST, MOST));
    fault("as many as can be, down", 4, () -> bounds(13, MOST, -MOST));
  }

  /** "Bounds are constant INTEGERs (3, then 5); all these are at the type's node." */
  private static void constantIntegers() {
    for (int kind = 11; kind <= 13; kind++) {
      int k = kind;
      int value = kind == 11 ? 0 : 5;
      fault("left is no INTEGER", 3, () -> d.node(k, value, d.sign('1'), d.number(1)));
      fault("right is no INTEGER", 3, () -> d.node(k, value, d.number(1), d.row("1")));
      fault("left is not constant", 5, () -> d.node(k, value, d.name(Refusals.VARIABLE), d.number(1)));
      fault("right is not constant", 5, () -> d.node(k, value, d.number(1), d.name(Refusals.VARIABLE)));
      fault("3 before 5", 3, () -> d.node(k, value, d.name(Refusals.VARIABLE), d.name(Refusals.SIGNAL)));
      fault("5 before what the bounds are", 5, () -> d.node(k, value, d.name(Refusals.VARIABLE), d.number(-1)));
    }
    refusals.fault("a fault below is at its own node", 1, node -> node - 2,
        () -> d.node(11, 0, d.name(99), d.number(1)), node -> d.book.type(node));
  }

  /** "IllegalStateException when there would be more than 1000 types": beyond 512 calls, so answers are free there. */
  private static void full() {
    d.fresh();
    int range = bounds(11, 1, 2);
    int named = d.node(10, 0);
    int wrong = bounds(11, 2, 1);
    int other = bounds(11, 3, 4);
    for (int type = 5; type <= 999; type++) {
      d.due("type", d.book.type(range), type);
    }
    d.book.type(wrong);
    d.state("the 1001st", () -> d.book.type(range));
    d.state("the 1001st by another node", () -> d.book.type(other));
    d.isUnknown("what throws tells nothing of a bound", other - 1);
    d.due("what throws leaves the place", d.book.place(), wrong);
    d.due("no new one is needed", d.book.type(named), Desk.INTEGERS);
    d.due("a fault needs none", d.book.type(wrong), -8);
    d.due("the 1000th", d.book.typeOf(999, 2), 2);
    d.index("the 1001st", () -> d.book.typeOf(1000, 0));
  }
}
