/** leave(): names go, objects and types stay as numbers. */
public final class Promise05Leave {
  public static void main(String[] args) {
    Desk d = new Desk();
    d.state("but one", () -> d.book.leave());
    d.due("outer", d.book.declare(Desk.VARIABLE, 100, Desk.LOGIC, 0), 0);
    d.book.enter();
    int type = d.enumeration(110, 111, 112, 100);
    d.due("a signal", d.book.declare(Desk.SIGNAL, 120, type, 0), 1);
    int node = d.name(120);
    d.looks("inside", node, TypeBook.ENUMERATION, type, 0, 1);
    d.due("leave", d.book.leave(), 1);
    d.fault("signal gone", d.name(120), 1);
    d.fault("place gone", d.name(111), 1);
    d.due("type name gone", d.book.type(d.node(10, 110)), -1);
    d.due("looked at before", d.book.about(node, 3), 1);
    d.due("type stays", d.book.typeOf(type, 3), 3);
    d.looks("outer name again", d.name(100), TypeBook.LOGIC, 0, 0, 0);
    d.due("outer scope has it still", d.book.subtype(100, 0), -7);
    d.due("objects are not numbered again", d.book.declare(Desk.SIGNAL, 120, type, 0), 2);
    d.looks("its type has no name", d.name(120), TypeBook.ENUMERATION, type, 0, 2);
    d.state("but one", () -> d.book.leave());
    d.due("enter after", d.book.enter(), 2);
    d.due("the new scope is empty", d.book.subtype(111, 0), 0);
    namesOfTheBeginning(d);
    d.end();
  }

  private static void namesOfTheBeginning(Desk d) {
    d.fresh();
    d.book.enter();
    d.book.declare(Desk.SIGNAL, Desk.TRUE, Desk.LOGIC, 0);
    d.looks("true is a signal", d.name(Desk.TRUE), TypeBook.LOGIC, 0, 0, 0);
    d.book.leave();
    d.looks("true is true", d.name(Desk.TRUE), TypeBook.TRUTH, 0, 1, 2000);
  }
}
