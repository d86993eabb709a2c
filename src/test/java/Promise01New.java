/** A new object: no nodes, one scope without names, five types. */
public final class Promise01New {
  public static void main(String[] args) {
    Desk d = new Desk();
    d.due("nodes", d.book.clear(), 0);
    d.due("place", d.book.place(), TypeBook.NONE);
    d.argument("no trees", () -> d.book.add(20, 0, 1));
    d.index("no node", () -> d.book.check(0, TypeBook.NONE));
    d.state("one scope", () -> d.book.leave());
    int[][] types = {{0, 0, 0, 0, 0}, {1, 0, 0, 0, 0}, {2, -2147483647, 2147483647, 0, 0},
        {2, 0, 2147483647, 0, 0}, {2, 1, 2147483647, 0, 0}};
    for (int type = 0; type < types.length; type++) {
      for (int what = 0; what < 5; what++) {
        d.due("type " + type + " part " + what, d.book.typeOf(type, what), types[type][what]);
      }
    }
    d.index("five types", () -> d.book.typeOf(5, 0));
    for (int name = 0; name <= 11; name++) {
      d.due("name " + name + " is free", d.book.subtype(name, 1), 0);
    }
    d.fresh();
    d.due("first object", d.book.declare(1, 50, 0, 99), 0);
    d.end();
  }
}
