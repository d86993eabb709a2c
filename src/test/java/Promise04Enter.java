/** enter(): 32 scopes at most, the innermost meaning counts. */
public final class Promise04Enter {
  public static void main(String[] args) {
    Desk d = new Desk();
    int[] seen = new int[33];
    for (int scopes = 1; scopes <= 32; scopes++) {
      if (scopes > 1) {
        d.due("enter", d.book.enter(), scopes);
      }
      d.due("name of an outer scope", d.book.declare(Desk.SIGNAL, 300, Desk.LOGIC, 0), scopes - 1);
      d.due("name of its own", d.book.subtype(300 + scopes, Desk.TRUTH), 0);
      seen[scopes] = d.name(300);
      d.looks("innermost", seen[scopes], TypeBook.LOGIC, 0, 0, scopes - 1);
    }
    d.state("33rd", () -> d.book.enter());
    d.due("outer names are seen", d.book.type(d.node(10, 301)), 1);
    d.due("looked at before", d.book.about(seen[5], 3), 4);
    d.due("32 scopes stay", d.book.leave(), 31);
    d.looks("one further out", d.name(300), TypeBook.LOGIC, 0, 0, 30);
    d.due("enter again", d.book.enter(), 32);
    d.end();
  }
}
