/** Promise 1, at its edges: what a new object has, and what it has not. */
public final class Edges01New {
  private static final Desk d = new Desk();

  public static void main(String[] args) {
    noNodes();
    oneScope();
    withoutNames();
    fiveTypes();
    allCallsThatAreAllowed();
    d.end();
  }

  /** "No nodes": the first number that a node could have is none yet, for every call that takes one. */
  private static void noNodes() {
    d.fresh();
    d.index("type", () -> d.book.type(0));
    d.index("enumeration", () -> d.book.enumeration(0));
    d.index("declare", () -> d.book.declare(Desk.CONSTANT, 100, Desk.LOGIC, 0));
    d.index("check", () -> d.book.check(0, TypeBook.NONE));
    d.index("about", () -> d.book.about(0, 0));
    d.index("value", () -> d.book.value(0, 0));
    d.argument("no tree to take", () -> d.book.add(20, 1, 1));
    d.due("clear", d.book.clear(), 0);
    d.due("place", d.book.place(), TypeBook.NONE);
    d.due("the first node", d.book.add(2, 0, 0), 0);
    d.due("it is a node", d.book.check(0, TypeBook.NONE), 0);
    d.index("there is no second", () -> d.book.check(1, TypeBook.NONE));
  }

  /** "one scope" */
  private static void oneScope() {
    d.fresh();
    d.state("it can't be left", () -> d.book.leave());
    d.due("the second", d.book.enter(), 2);
    d.due("back in the first", d.book.leave(), 1);
    d.state("it can't be left", () -> d.book.leave());
  }

  /** "without names": each of 0 .. 9999 is free, those that mean something from the beginning too. */
  private static void withoutNames() {
    for (int name = 0; name <= 9999; name++) {
      if (name % 500 == 0) {
        d.fresh();
      }
      d.due("name " + name + " is free", d.book.subtype(name, Desk.TRUTH), 0);
    }
  }

  /** "types 0 LOGIC, 1 TRUTH, 2 all INTEGERs, 3 those from 0 on, 4 those from 1 on" */
  private static void fiveTypes() {
    d.fresh();
    int[][] types = {{TypeBook.LOGIC, 0, 0, 0, 0}, {TypeBook.TRUTH, 0, 0, 0, 0},
        {TypeBook.INTEGER, -2147483647, 2147483647, 0, 0}, {TypeBook.INTEGER, 0, 2147483647, 0, 0},
        {TypeBook.INTEGER, 1, 2147483647, 0, 0}};
    for (int type = 0; type < types.length; type++) {
      for (int what = 0; what < 5; what++) {
        d.due("type " + type + " part " + what, d.book.typeOf(type, what), types[type][what]);
      }
    }
    d.index("before the first", () -> d.book.typeOf(-1, 0));
    d.index("behind the last", () -> d.book.typeOf(5, 0));
    d.due("the next", d.range(0, 0), 5);
  }

  /** "An object is used for at most 512 calls after it has been made": the last ones answer like the first. */
  private static void allCallsThatAreAllowed() {
    d.fresh();
    d.book.add(2, 5, 0);
    for (int call = 2; call <= 508; call++) {
      d.due("node", d.book.add(20, 1, 1), call - 1);
    }
    d.due("call 509", d.book.check(507, Desk.INTEGERS), 0);
    d.due("call 510", d.book.value(507, 0), -5);
    d.due("call 511", d.book.about(0, 0), TypeBook.INTEGER);
    d.due("call 512", d.book.clear(), 508);
    d.fresh();
    for (int call = 1; call <= 511; call++) {
      d.due("object", d.book.declare(Desk.SIGNAL, 1000 + call, Desk.LOGIC, 0), call - 1);
    }
    d.due("call 512", d.book.declare(Desk.SIGNAL, 1001, Desk.LOGIC, 0), -7);
  }
}
