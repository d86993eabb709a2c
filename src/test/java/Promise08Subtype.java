/** subtype(): a name for a type. */
public final class Promise08Subtype {
  public static void main(String[] args) {
    Desk d = new Desk();
    int row = d.rowUp(2, 5);
    d.due("a row", d.book.subtype(100, row), 0);
    d.due("it means that type", d.book.type(d.node(10, 100)), row);
    d.book.type(d.node(10, 99));
    d.due("there is a fault", d.book.place() == TypeBook.NONE ? 1 : 0, 0);
    d.due("taken", d.book.subtype(100, 0), -7);
    d.due("-7 has no place", d.book.place(), TypeBook.NONE);
    d.due("it means the same still", d.book.type(d.node(10, 100)), row);
    d.book.type(d.node(10, 99));
    d.due("another", d.book.subtype(101, 0), 0);
    d.due("no fault, no place", d.book.place(), TypeBook.NONE);
    d.fault("no expression", d.name(100), 2);
    d.book.enter();
    d.due("in an inner scope", d.book.subtype(100, 1), 0);
    d.due("the inner one", d.book.type(d.node(10, 100)), 1);
    d.due("least name", d.book.subtype(0, 0), 0);
    d.due("the inner integers", d.book.type(d.node(10, 0)), 0);
    d.due("greatest name", d.book.subtype(9999, 0), 0);
    d.argument("name below", () -> d.book.subtype(-1, 0));
    d.argument("name above", () -> d.book.subtype(10000, 0));
    d.index("type below", () -> d.book.subtype(200, -1));
    d.index("type above", () -> d.book.subtype(200, row + 1));
    d.fault("what threw declared nothing", d.name(200), 1);
    d.end();
  }
}
