/** Promise 5, at its edges: the last scope stays, names go, numbers stay. */
public final class Edges05Leave {
  private static final Desk d = new Desk();

  public static void main(String[] args) {
    howMany();
    butOne();
    namesGo();
    numbersStay();
    d.end();
  }

  /** "how many are left" */
  private static void howMany() {
    d.fresh();
    for (int scopes = 2; scopes <= 32; scopes++) {
      d.book.enter();
    }
    for (int left = 31; left >= 1; left--) {
      d.due("leave", d.book.leave(), left);
    }
    d.state("the last", () -> d.book.leave());
  }

  /** "IllegalStateException when there is but one." */
  private static void butOne() {
    new Refusals(d, () -> {
      d.book.declare(Desk.SIGNAL, 100, Desk.LOGIC, 0);
      d.enumeration(110, 111);
      d.book.check(d.name(Desk.NOTHING), TypeBook.NONE);
    }, 100, 110, 111).state("the last", () -> d.book.leave());
    d.fresh();
    d.book.subtype(100, Desk.TRUTH);
    d.state("the last", () -> d.book.leave());
    d.due("its names stay", d.book.type(d.node(10, 100)), Desk.TRUTH);
  }

  /** "The innermost scope goes, with its names": none of none, one, all of many, and no outer one. */
  private static void namesGo() {
    d.fresh();
    d.book.enter();
    d.due("a scope without names", d.book.leave(), 1);
    d.book.subtype(100, Desk.TRUTH);
    d.book.enter();
    d.book.subtype(100, Desk.LOGIC);
    d.book.enter();
    d.book.declare(Desk.SIGNAL, 100, Desk.LOGIC, 0);
    d.enumeration(101, 102, 103);
    d.book.leave();
    for (int name = 101; name <= 103; name++) {
      d.fault("name " + name, d.name(name), 1);
    }
    d.due("the next one out", d.book.type(d.node(10, 100)), Desk.LOGIC);
    d.book.leave();
    d.due("the outermost", d.book.type(d.node(10, 100)), Desk.TRUTH);
    d.book.enter();
    d.due("a new scope has not the names of an old one", d.book.subtype(100, Desk.LOGIC), 0);
    d.due("nor these", d.book.subtype(103, Desk.LOGIC), 0);
  }

  /** "its objects and types stay as numbers" */
  private static void numbersStay() {
    d.fresh();
    d.book.enter();
    int colors = d.enumeration(110, 111, 112);
    int down = d.rowDown(4, 2);
    d.constant(100, down, d.row("1HZ"));
    int node = d.name(100);
    d.isRow("in its scope", node, "1HZ");
    d.book.leave();
    d.due("the type of a scope that went", d.book.typeOf(colors, 2), 1);
    d.due("another", d.book.typeOf(down, 2), 2);
    d.due("a signal of that type", d.book.declare(Desk.SIGNAL, 100, colors, 0), 1);
    d.due("types go on", d.range(1, 1), down + 1);
    d.due("what was looked at means the object still", d.book.about(node, 3), 0);
    d.due("and has its value", d.book.value(node, 0), 4);
  }
}
