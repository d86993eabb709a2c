/** Promise 8, at its edges. */
public final class Edges08Subtype {
  private static final Desk d = new Desk();
  private static final Refusals refusals = new Refusals(d);

  public static void main(String[] args) {
    types();
    names();
    taken();
    full();
    d.end();
  }

  /** "IndexOutOfBoundsException": there is no such type. */
  private static void types() {
    d.fresh();
    int last = d.rowUp(0, 1);
    d.due("the first", d.book.subtype(100, 0), 0);
    d.due("the last", d.book.subtype(101, last), 0);
    d.due("means the first", d.book.type(d.node(10, 100)), 0);
    d.due("means the last", d.book.type(d.node(10, 101)), last);
    for (int type : new int[] {-1, Refusals.NO_TYPE, Integer.MIN_VALUE, Integer.MAX_VALUE}) {
      refusals.index("type " + type, () -> d.book.subtype(Refusals.FREE, type));
    }
    refusals.index("no type for a name that is there", () -> d.book.subtype(Refusals.SMALL, Refusals.NO_TYPE));
  }

  /** "IllegalArgumentException when it is not 0 .. 9999" */
  private static void names() {
    d.fresh();
    d.due("the least", d.book.subtype(0, Desk.TRUTH), 0);
    d.due("the greatest", d.book.subtype(9999, Desk.FROM_1), 0);
    d.due("the least means it", d.book.type(d.node(10, 0)), Desk.TRUTH);
    d.due("the greatest means it", d.book.type(d.node(10, 9999)), Desk.FROM_1);
    for (int name : new int[] {-1, 10000, Integer.MIN_VALUE, Integer.MAX_VALUE}) {
      refusals.argument("name " + name, () -> d.book.subtype(name, 0));
    }
  }

  /** "0, or -7": by what the innermost scope has, of whatever sort; its place is NONE. */
  private static void taken() {
    for (int name : new int[] {Refusals.SMALL, Refusals.ROW_SIGNAL, Refusals.RED}) {
      refusals.fault("name " + name, 7, node -> TypeBook.NONE, () -> 0, node -> d.book.subtype(name, Desk.TRUTH));
    }
    d.fresh();
    d.enumeration(110, 111, 112);
    d.constant(113, Desk.INTEGERS, d.number(1));
    for (int name = 110; name <= 113; name++) {
      d.due("name " + name, d.book.subtype(name, 0), -7);
    }
    d.due("the next", d.book.subtype(114, 0), 0);
    d.book.enter();
    for (int name = 110; name <= 114; name++) {
      d.due("an outer scope's, name " + name, d.book.subtype(name, 0), 0);
    }
    for (int name = 0; name <= 22; name++) {
      d.due("from the beginning, name " + name, d.book.subtype(name, 0), 0);
    }
  }

  /** 2925 names by 45 enumerations of 65. */
  private static void names2925() {
    int[] nodes = new int[2];
    for (int half = 0; half < 2; half++) {
      for (int i = 0; i < 64; i++) {
        d.name(1000 + half * 64 + i);
      }
      nodes[half] = d.book.add(53, 2000 + half, 64);
    }
    for (int i = 0; i < 45; i++) {
      d.book.enumeration(nodes[i % 2]);
      if (i % 2 == 1) {
        d.book.enter();
      }
    }
  }

  /** "IllegalStateException when there would be more than 3000 names." */
  private static void full() {
    d.fresh();
    names2925();
    for (int i = 2926; i <= 3000; i++) {
      d.due("name " + i, d.book.subtype(i, 0), 0);
    }
    d.stateKeepsPlace("the 3001st", () -> d.book.subtype(3001, 0));
    d.due("a fault is told though there is no room", d.book.subtype(3000, 0), -7);
    d.argument("no name", () -> d.book.subtype(10000, 0));
    d.index("no type", () -> d.book.subtype(3001, 77));
    d.fault("the 3001st is not there", d.name(3001), 1);
    d.book.leave();
    d.due("names that went with their scope are not counted", d.book.subtype(3001, 0), 0);
  }
}
