/** Promise 3, at its edges: of none, of one, twice, and what stays. */
public final class Edges03Clear {
  private static final Desk d = new Desk();

  public static void main(String[] args) {
    howMany();
    allNodesGo();
    typesObjectsScopesStay();
    numbersBeginAnew();
    rowsBeginAnew();
    d.end();
  }

  /** "how many they were" */
  private static void howMany() {
    d.fresh();
    d.due("none", d.book.clear(), 0);
    d.number(1);
    d.due("one", d.book.clear(), 1);
    d.due("none again", d.book.clear(), 0);
    d.row("01Z");
    d.due("all nodes, not trees", d.book.clear(), 4);
    for (int i = 0; i < 400; i++) {
      d.book.add(3, 0, 0);
    }
    d.due("many", d.book.clear(), 400);
  }

  /** "All nodes go" */
  private static void allNodesGo() {
    d.fresh();
    int node = d.number(1);
    d.book.check(node, TypeBook.NONE);
    d.book.clear();
    d.index("type", () -> d.book.type(node));
    d.index("enumeration", () -> d.book.enumeration(node));
    d.index("declare", () -> d.book.declare(Desk.CONSTANT, 100, Desk.INTEGERS, node));
    d.index("check", () -> d.book.check(node, TypeBook.NONE));
    d.index("about", () -> d.book.about(node, 0));
    d.index("value", () -> d.book.value(node, 0));
    d.argument("no tree to take", () -> d.book.add(20, 1, 1));
  }

  /** "Types, objects, scopes stay; they have no nodes." */
  private static void typesObjectsScopesStay() {
    d.fresh();
    int up = d.rowUp(62, 125);
    int range = d.range(-7, 7);
    d.constant(100, up, d.row("UX01ZWLH".repeat(8)));
    d.book.enter();
    int colors = d.enumeration(110, 111, 112);
    d.constant(101, range, d.number(-7));
    d.book.clear();
    d.due("a row's bound", d.book.typeOf(up, 1), 62);
    d.due("a range's end", d.book.typeOf(range, 1), -7);
    d.isRow("a constant of nodes that went", d.name(100), "UX01ZWLH".repeat(8));
    d.is("another", d.name(101), TypeBook.INTEGER, -7);
    d.is("a place", d.name(112), TypeBook.ENUMERATION, 1);
    d.due("a type's name", d.book.type(d.node(10, 110)), colors);
    d.due("its name is taken", d.book.subtype(110, 0), -7);
    d.due("objects go on", d.book.declare(Desk.SIGNAL, 102, colors, 0), 2);
    d.due("types go on", d.range(1, 2), colors + 1);
    d.due("scopes stay", d.book.leave(), 1);
    d.fault("the inner one had it", d.name(111), 1);
  }

  /** about() is "NONE for all if never since it was made": a node of an old number is another one. */
  private static void numbersBeginAnew() {
    d.fresh();
    d.is("looked at", d.number(3), TypeBook.INTEGER, 3);
    d.book.clear();
    d.due("the old number", d.number(4), 0);
    d.isUnknown("not looked at", 0);
    d.is("its own value", 0, TypeBook.INTEGER, 4);
    d.book.clear();
    d.due("as a row", d.row("Z"), 1);
    d.isUnknown("not looked at", 0);
    d.isUnknown("nor this", 1);
  }

  /** A row by the number of one that went, and as long or shorter, has nothing of its elements. */
  private static void rowsBeginAnew() {
    String[] rows = {"HHHH", "UUUU", "----", "0000", "X1LZ", "UUUU"};
    d.fresh();
    for (String row : rows) {
      d.book.clear();
      d.due("the same number", d.row(row), 4);
      d.isRow("another row", 4, row);
    }
    for (String before : new String[] {"HHHH", "ZZZZ"}) {
      shorterRows(before);
    }
  }

  private static void shorterRows(String before) {
    int[] due = {1, 0, 0, 1, 0, 1};
    for (int operator = Desk.SAME; operator <= Desk.NOT_LESS; operator++) {
      longerRowsWent(before);
      d.is("operator " + operator, d.binary(operator, shortRow(4), shortRow(7)), TypeBook.TRUTH,
          due[operator - Desk.SAME]);
    }
    longerRowsWent(before);
    d.isRow("their sum", d.binary(Desk.SUM, shortRow(4), shortRow(7)), "10");
    longerRowsWent(before);
    d.is("its number", d.apply(Desk.NUMBER, shortRow(4)), TypeBook.INTEGER, 1);
  }

  /** By the numbers 4 and 7 there were rows of four and of seven; two nodes are there again. */
  private static void longerRowsWent(String before) {
    d.fresh();
    d.book.check(d.row(before), TypeBook.NONE);
    d.book.clear();
    d.book.check(d.row("0000000"), TypeBook.NONE);
    d.book.clear();
    d.number(1);
    d.number(1);
  }

  private static int shortRow(int number) {
    int node = d.row("01");
    d.due("its number", node, number);
    return node;
  }
}
