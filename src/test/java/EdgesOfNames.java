/** The terms NAMES and SCOPES, at their edges. */
public final class EdgesOfNames {
  private static final Desk d = new Desk();

  public static void main(String[] args) {
    leastAndGreatest();
    fromTheBeginning();
    asAttributes();
    outsideOfAll();
    innermost();
    noneIsAnother();
    d.end();
  }

  /** "NAMES are numbers, 0 .. 9999." */
  private static void leastAndGreatest() {
    for (int name : new int[] {0, 9999}) {
      d.fresh();
      int down = d.rowDown(3, 0);
      d.constant(name, down, d.row("1XLU"));
      d.isRow("NAME " + name, d.name(name), "1XLU");
      d.is("APPLY " + name, d.apply(name, d.number(3)), TypeBook.LOGIC, 3);
      d.isRow("SLICE " + name, d.sliceDown(name, d.number(2), d.number(1)), "XL");
      d.is("ATTRIBUTE " + name, d.attribute(name, 18), TypeBook.INTEGER, 4);
      d.book.enter();
      d.book.declare(Desk.SIGNAL, name, d.rowUp(3, 6), 0);
      d.looks("SLICE UP " + name, d.sliceUp(name, d.number(3), d.number(5)), TypeBook.ROW, 3, 0, 1);
      d.book.enter();
      d.book.subtype(name, down);
      d.due("TYPE " + name, d.book.type(d.node(10, name)), down);
    }
  }

  /** "Some mean something from the beginning": 0 to 11, and neither 12 to 14 nor what is behind the attributes. */
  private static void fromTheBeginning() {
    d.fresh();
    int[] types = {2, 3, 4, 1, 0};
    for (int name = 0; name <= 4; name++) {
      d.due("a type, " + name, d.book.type(d.node(10, name)), types[name]);
      d.fault("no expression, " + name, d.name(name), 2);
    }
    d.due("no type without bounds", d.book.type(d.node(10, 5)), -2);
    d.fault("rows", d.name(5), 2);
    d.is("true", d.name(6), TypeBook.TRUTH, 1);
    d.is("false", d.name(7), TypeBook.TRUTH, 0);
    for (int name = 8; name <= 11; name++) {
      d.fault("a function, " + name, d.name(name), 2);
      d.fault("a function without arguments, " + name, d.apply(name), 11);
    }
    for (int name : new int[] {12, 13, 14, 23, 9999}) {
      d.fault("nothing, " + name, d.name(name), 1);
      d.fault("nothing, " + name, d.apply(name, d.number(1)), 1);
      d.due("nothing, " + name, d.book.type(d.node(10, name)), -1);
    }
  }

  /** "as attributes, after their own kind alone: 15 .. 22" */
  private static void asAttributes() {
    d.fresh();
    d.book.declare(Desk.SIGNAL, 100, d.rowUp(0, 3), 0);
    for (int which = 15; which <= 22; which++) {
      d.due("attribute " + which, d.book.check(d.attribute(100, which), TypeBook.NONE), 0);
      d.fault("no name of an object, " + which, d.name(which), 1);
      d.fault("no function, " + which, d.apply(which, d.number(1)), 1);
    }
    for (int which : new int[] {0, 14, 23, 9999}) {
      d.fault("no attribute, " + which, d.attribute(100, which), 11);
    }
  }

  /** "those from the beginning are outside of all": each scope may have them, and they are there again behind it. */
  private static void outsideOfAll() {
    for (int name = 0; name <= 22; name++) {
      d.fresh();
      int before = d.book.check(d.name(name), TypeBook.NONE);
      int typeBefore = d.book.type(d.node(10, name));
      d.book.enter();
      d.due("declared over " + name, d.book.declare(Desk.VARIABLE, name, Desk.LOGIC, 0), 0);
      d.looks("it counts, " + name, d.name(name), TypeBook.LOGIC, 0, 0, 0);
      d.due("a type no more, " + name, d.book.type(d.node(10, name)), -2);
      d.book.leave();
      d.due("as before, " + name, d.book.check(d.name(name), TypeBook.NONE), before);
      d.due("as before, " + name, d.book.type(d.node(10, name)), typeBefore);
      d.due("in the outermost, " + name, d.book.declare(Desk.VARIABLE, name, Desk.LOGIC, 0), 1);
      d.looks("it counts, " + name, d.name(name), TypeBook.LOGIC, 0, 0, 1);
    }
  }

  /** "a name means what the innermost one that has it says": one out of 32 that have it not. */
  private static void innermost() {
    for (int has = 1; has <= 32; has++) {
      d.fresh();
      d.book.declare(Desk.SIGNAL, 99, Desk.LOGIC, 0);
      for (int scope = 1; scope <= 32; scope++) {
        if (scope > 1) {
          d.book.enter();
        }
        if (scope == has) {
          d.book.declare(Desk.SIGNAL, 100, Desk.TRUTH, 0);
        }
      }
      d.looks("scope " + has + " has it", d.name(100), TypeBook.TRUTH, 0, 0, 1);
      for (int scope = 32; scope > 1; scope--) {
        d.book.leave();
      }
      d.due("seen from the first", d.book.check(d.name(100), TypeBook.NONE), has == 1 ? 0 : -1);
    }
  }

  /** Names that are alike but for what a table may leave out of them are others. */
  private static void noneIsAnother() {
    for (int step : new int[] {1, 2, 10, 16, 32, 64, 100, 128, 256, 512, 1000, 1024, 2048, 4096, 5000, 8192}) {
      d.fresh();
      int type = 0;
      for (int name = 7; name <= 9999 && type < 100; name += step) {
        d.due("name " + name, d.book.declare(Desk.SIGNAL, name, type % 5, 0), type);
        type++;
      }
      type = 0;
      for (int name = 7; name <= 9999 && type < 100; name += step) {
        int node = d.name(name);
        d.book.check(node, TypeBook.NONE);
        d.due("name " + name + " means its own", d.book.about(node, 3), type++);
      }
    }
  }
}
