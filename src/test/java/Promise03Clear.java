/** clear(): nodes go, all else stays. */
public final class Promise03Clear {
  public static void main(String[] args) {
    Desk d = new Desk();
    int row = d.rowDown(3, 0);
    d.constant(100, row, d.row("10LH"));
    d.book.enter();
    int colors = d.enumeration(110, 111, 112);
    d.book.check(d.name(99), TypeBook.NONE);
    int place = d.book.place();
    int nodes = place + 1;
    d.due("how many", d.book.clear(), nodes);
    d.due("none left", d.book.clear(), 0);
    d.due("the place stays", d.book.place(), place);
    d.index("no node", () -> d.book.about(0, 0));
    d.index("no value", () -> d.book.value(0, 0));
    d.argument("no trees", () -> d.book.add(20, 1, 1));
    d.due("numbers begin anew", d.name(100), 0);
    d.isUnknown("a new node", 0);
    d.isRow("constant stays", 0, "10LH");
    d.looks("places stay", d.name(112), TypeBook.ENUMERATION, colors, 1, 2000);
    d.due("types stay", d.book.typeOf(row, 3), 4);
    d.due("scopes stay", d.book.leave(), 1);
    d.due("clear again", d.book.clear(), 2);
    d.due("a node of the old number", d.number(3), 0);
    d.isUnknown("it has not been looked at", 0);
    d.end();
  }
}
