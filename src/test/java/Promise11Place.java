/** place(): where the latest fault is. */
public final class Promise11Place {
  public static void main(String[] args) {
    Desk d = new Desk();
    d.due("no call yet", d.book.place(), TypeBook.NONE);
    int right = d.number(1);
    int wrong = d.name(99);
    d.due("other calls", d.book.place(), TypeBook.NONE);
    d.book.check(wrong, TypeBook.NONE);
    d.due("check", d.book.place(), wrong);
    d.book.enter();
    d.book.leave();
    d.book.about(right, 0);
    d.book.typeOf(0, 0);
    d.due("calls that answer no fault", d.book.place(), wrong);
    d.index("a call that throws", () -> d.book.check(-1, TypeBook.NONE));
    d.argument("a call that throws", () -> d.book.declare(5, 1, 0, 0));
    d.due("changes nothing", d.book.place(), wrong);
    d.book.check(right, TypeBook.NONE);
    d.due("without a fault", d.book.place(), TypeBook.NONE);
    d.book.type(right);
    d.due("type", d.book.place(), right);
    d.book.subtype(100, 0);
    d.due("subtype", d.book.place(), TypeBook.NONE);
    d.book.enumeration(wrong);
    d.due("enumeration", d.book.place(), wrong);
    d.book.declare(Desk.SIGNAL, 101, 0, 0);
    d.due("declare", d.book.place(), TypeBook.NONE);
    d.book.declare(Desk.CONSTANT, 102, 0, right);
    d.due("declare's fault", d.book.place(), right);
    d.book.declare(Desk.SIGNAL, 101, 0, 0);
    d.due("-7 of declare", d.book.place(), TypeBook.NONE);
    d.book.check(wrong, TypeBook.NONE);
    d.book.subtype(100, 0);
    d.due("-7 of subtype", d.book.place(), TypeBook.NONE);
    d.book.check(wrong, TypeBook.NONE);
    d.book.type(d.node(10, 0));
    d.due("type without a fault", d.book.place(), TypeBook.NONE);
    d.book.check(wrong, TypeBook.NONE);
    d.enumeration(110, 111);
    d.due("enumeration without a fault", d.book.place(), TypeBook.NONE);
    d.end();
  }
}
