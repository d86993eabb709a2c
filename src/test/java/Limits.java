/** Tables that only more than 512 calls can fill: answers are free there, but the machine must not throw. */
public final class Limits {
  public static void main(String[] args) {
    Desk d = new Desk();
    objects(d);
    scopesAndNames(d);
    d.end();
  }

  private static void objects(Desk d) {
    int row = d.rowUp(0, 63);
    int node = d.row("UX01ZWLH".repeat(8));
    for (int i = 0; i < 2000; i++) {
      d.due("object", d.book.declare(Desk.CONSTANT, i, row, node), i);
    }
    d.state("2001 objects", () -> d.book.declare(Desk.SIGNAL, 5000, 0, 0));
    d.due("a fault before the limit", d.book.declare(Desk.SIGNAL, 1999, 0, 0), -7);
    d.isRow("the last one", d.name(1999), "UX01ZWLH".repeat(8));
  }

  private static void scopesAndNames(Desk d) {
    d.fresh();
    for (int name = 0; name < 3000; name++) {
      if (name % 100 == 99) {
        d.book.enter();
      }
      d.due("name", d.book.subtype(name * 3 % 10000, name % 5), 0);
    }
    d.state("3001 names", () -> d.book.subtype(9999, 0));
    d.due("the first", d.book.type(d.node(10, 0)), 0);
    d.due("the last", d.book.type(d.node(10, 8997)), 4);
    for (int scopes = 30; scopes >= 1; scopes--) {
      d.due("leave", d.book.leave(), scopes);
    }
    d.due("only those of the first scope", d.book.type(d.node(10, 98 * 3)), 98 % 5);
    d.due("not those of the second", d.book.type(d.node(10, 99 * 3)), -1);
  }
}
