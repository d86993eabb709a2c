/** Promise 4, at its edges: 32 scopes and no more. */
public final class Edges04Enter {
  private static final Desk d = new Desk();

  public static void main(String[] args) {
    howMany();
    full();
    within();
    d.end();
  }

  private static void fill() {
    for (int scopes = 2; scopes <= 32; scopes++) {
      d.book.enter();
    }
    d.book.check(d.name(Desk.NOTHING), TypeBook.NONE);
  }

  /** "how many there are" */
  private static void howMany() {
    d.fresh();
    for (int scopes = 2; scopes <= 32; scopes++) {
      d.due("enter", d.book.enter(), scopes);
    }
  }

  /** "IllegalStateException when there are 32." */
  private static void full() {
    new Refusals(d, Edges04Enter::fill, 100).state("the 33rd", () -> d.book.enter());
    d.fresh();
    fill();
    d.state("the 33rd", () -> d.book.enter());
    d.state("once more", () -> d.book.enter());
    d.due("the 32nd can be left", d.book.leave(), 31);
    d.due("and entered", d.book.enter(), 32);
    d.state("the 33rd", () -> d.book.enter());
  }

  /** "A scope within the present one": without names of its own, and all outer ones mean what they did. */
  private static void within() {
    d.fresh();
    d.book.declare(Desk.SIGNAL, 100, Desk.LOGIC, 0);
    for (int scopes = 2; scopes <= 32; scopes++) {
      d.book.enter();
      d.looks("seen from scope " + scopes, d.name(100), TypeBook.LOGIC, 0, 0, 0);
    }
    d.due("the 32nd has no names", d.book.declare(Desk.VARIABLE, 100, Desk.TRUTH, 0), 1);
    d.looks("the innermost counts", d.name(100), TypeBook.TRUTH, 0, 0, 1);
    d.due("now it has", d.book.declare(Desk.VARIABLE, 100, Desk.TRUTH, 0), -7);
    d.book.leave();
    d.looks("the outermost counts", d.name(100), TypeBook.LOGIC, 0, 0, 0);
    d.due("the 31st has none", d.book.subtype(100, Desk.TRUTH), 0);
    d.fault("a type is no expression", d.name(100), 2);
  }
}
