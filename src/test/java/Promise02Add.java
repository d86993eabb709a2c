/** add(): numbers, children, and what is refused. */
public final class Promise02Add {
  public static void main(String[] args) {
    Desk d = new Desk();
    d.due("first", d.book.add(2, 7, 0), 0);
    d.due("second", d.book.add(2, 8, 0), 1);
    d.due("third", d.book.add(2, 9, 0), 2);
    d.due("takes the latest two", d.book.add(21, Desk.DIFFERENCE, 2), 3);
    d.due("takes what is left", d.book.add(21, Desk.SUM, 2), 4);
    d.is("7 + (8 - 9)", 4, TypeBook.INTEGER, 6);
    d.argument("children of others are no trees", () -> d.book.add(4, 0, 2));
    d.argument("kind below", () -> d.book.add(-1, 0, 0));
    d.argument("kind above", () -> d.book.add(100, 0, 0));
    d.argument("n below 0", () -> d.book.add(2, 0, -1));
    d.argument("n least", () -> d.book.add(2, 0, Integer.MIN_VALUE));
    d.argument("n greatest", () -> d.book.add(2, 0, Integer.MAX_VALUE));
    for (int kind : new int[] {1, 10, 22, 23, 24, 25, 53}) {
      d.argument("name below, kind " + kind, () -> d.book.add(kind, -1, 0));
      d.argument("name above, kind " + kind, () -> d.book.add(kind, 10000, 0));
    }
    d.due("what threw made no node", d.book.add(1, 9999, 0), 5);
    int due = 6;
    for (int kind = 0; kind <= 99; kind++) {
      boolean named = kind == 1 || kind == 10 || kind >= 22 && kind <= 25 || kind == 53;
      d.due("kind " + kind, d.book.add(kind, named ? 0 : -12345, 0), due++);
    }
    manyNodes(d);
    d.end();
  }

  private static void manyNodes(Desk d) {
    d.fresh();
    for (int i = 0; i < 500; i++) {
      d.due("node", d.book.add(i == 0 ? 2 : 20, i == 0 ? 5 : 1, i == 0 ? 0 : 1), i);
    }
    d.is("a tree 500 deep", 499, TypeBook.INTEGER, -5);
  }
}
