/** Promise 11, at its edges: which calls move the place, and which leave it. */
public final class Edges11Place {
  private static final Desk d = new Desk();
  private static int wrong;
  private static int right;
  private static int range;

  public static void main(String[] args) {
    noSuchCall();
    nodeOfTheFault();
    noneByAnAnswer();
    noneBy7();
    placeBy7();
    leftByOthers();
    leftByExceptions();
    d.end();
  }

  /** The place is 0, which is a node and not NONE. */
  private static void begin() {
    d.fresh();
    wrong = d.name(99);
    right = d.number(1);
    range = d.node(11, 0, d.number(1), d.number(2));
    d.book.check(wrong, TypeBook.NONE);
    d.due("the first node", d.book.place(), 0);
  }

  /** "or there was no such call" */
  private static void noSuchCall() {
    d.fresh();
    d.due("no call", d.book.place(), TypeBook.NONE);
    d.name(99);
    d.book.enter();
    d.book.leave();
    d.book.about(0, 0);
    d.index("one that throws", () -> d.book.check(1, TypeBook.NONE));
    d.due("no such call", d.book.place(), TypeBook.NONE);
    d.book.clear();
    d.due("no such call", d.book.place(), TypeBook.NONE);
  }

  /** "The node of the latest fault" */
  private static void nodeOfTheFault() {
    begin();
    d.book.type(right);
    d.due("type", d.book.place(), right);
    d.book.enumeration(wrong);
    d.due("enumeration", d.book.place(), wrong);
    d.book.declare(Desk.CONSTANT, 100, Desk.LOGIC, right);
    d.due("declare", d.book.place(), right);
    d.book.check(range, TypeBook.NONE);
    d.due("check", d.book.place(), range);
    d.book.check(wrong, TypeBook.NONE);
    d.due("check of the first node", d.book.place(), 0);
    d.due("asked again", d.book.place(), 0);
    d.book.check(wrong, TypeBook.NONE);
    d.due("the same fault again", d.book.place(), 0);
  }

  /** "NONE when the latest call that may answer one answered none" */
  private static void noneByAnAnswer() {
    begin();
    d.due("check", d.book.check(right, TypeBook.NONE), 0);
    d.due("check", d.book.place(), TypeBook.NONE);
    begin();
    d.due("type", d.book.type(range), 5);
    d.due("type", d.book.place(), TypeBook.NONE);
    begin();
    d.due("a named type", d.book.type(d.node(10, 4)), 0);
    d.due("a named type", d.book.place(), TypeBook.NONE);
    begin();
    d.due("enumeration", d.enumeration(110, 111), 5);
    d.due("enumeration", d.book.place(), TypeBook.NONE);
    begin();
    d.due("subtype", d.book.subtype(100, 0), 0);
    d.due("subtype", d.book.place(), TypeBook.NONE);
    for (int what = 0; what < 3; what++) {
      begin();
      d.due("declare", d.book.declare(what, 100, Desk.INTEGERS, right), 0);
      d.due("declare", d.book.place(), TypeBook.NONE);
    }
  }

  /** "or -7 of subtype() or declare()" */
  private static void noneBy7() {
    begin();
    d.book.subtype(100, 0);
    d.book.check(wrong, TypeBook.NONE);
    d.due("subtype", d.book.subtype(100, 0), -7);
    d.due("subtype", d.book.place(), TypeBook.NONE);
    for (int what = 0; what < 3; what++) {
      d.book.check(wrong, TypeBook.NONE);
      d.due("declare", d.book.declare(what, 100, Desk.INTEGERS, right), -7);
      d.due("declare", d.book.place(), TypeBook.NONE);
    }
  }

  /** -7 of enumeration() is at a node. */
  private static void placeBy7() {
    begin();
    int node = d.node(53, 110, d.name(111));
    d.book.enumeration(node);
    d.due("enumeration", d.book.enumeration(node), -7);
    d.due("enumeration", d.book.place(), node);
  }

  /** Calls that may not answer a fault. */
  private static void leftByOthers() {
    begin();
    d.book.check(right, TypeBook.NONE);
    d.book.check(wrong, TypeBook.NONE);
    d.number(5);
    d.due("add", d.book.place(), 0);
    d.book.enter();
    d.due("enter", d.book.place(), 0);
    d.book.leave();
    d.due("leave", d.book.place(), 0);
    d.book.typeOf(0, 0);
    d.due("typeOf", d.book.place(), 0);
    d.book.about(right, 0);
    d.due("about", d.book.place(), 0);
    d.book.value(right, 0);
    d.due("value", d.book.place(), 0);
    d.book.clear();
    d.due("clear", d.book.place(), 0);
  }

  /** "A call that throws changes nothing" */
  private static void leftByExceptions() {
    begin();
    d.argument("add", () -> d.book.add(-1, 0, 0));
    d.state("leave", () -> d.book.leave());
    d.index("type", () -> d.book.type(-1));
    d.index("enumeration", () -> d.book.enumeration(-1));
    d.index("subtype", () -> d.book.subtype(100, -1));
    d.argument("subtype", () -> d.book.subtype(-1, 0));
    d.index("declare", () -> d.book.declare(Desk.CONSTANT, 100, 0, -1));
    d.argument("declare", () -> d.book.declare(3, 100, 0, 0));
    d.index("check", () -> d.book.check(-1, TypeBook.NONE));
    d.index("check", () -> d.book.check(right, -2));
    d.index("typeOf", () -> d.book.typeOf(-1, 0));
    d.index("about", () -> d.book.about(-1, 0));
    d.index("value", () -> d.book.value(-1, 0));
    d.state("value", () -> d.book.value(right, 0));
    d.due("the place", d.book.place(), 0);
  }
}
