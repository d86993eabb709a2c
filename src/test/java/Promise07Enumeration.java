/** enumeration(): a type with its places, and names that are there already. */
public final class Promise07Enumeration {
  private static final Desk d = new Desk();

  public static void main(String[] args) {
    ordinary();
    taken();
    malformed();
    limits();
    d.end();
  }

  private static int names(int first, int count, int own) {
    for (int i = 0; i < count; i++) {
      d.name(first + i);
    }
    return d.book.add(53, own, count);
  }

  private static void fault(String what, int node, int fault, int at) {
    d.due(what, d.book.enumeration(node), -fault);
    d.due(what + ": place", d.book.place(), at);
  }

  private static void ordinary() {
    int node = names(111, 3, 110);
    d.due("type", d.book.enumeration(node), 5);
    d.due("place", d.book.place(), TypeBook.NONE);
    int[] parts = {TypeBook.ENUMERATION, 0, 2, 3, 0};
    for (int what = 0; what < parts.length; what++) {
      d.due("part " + what, d.book.typeOf(5, what), parts[what]);
    }
    d.isUnknown("its NAMEs are not looked at", node - 1);
    for (int place = 0; place < 3; place++) {
      int name = d.name(111 + place);
      d.looks("place " + place, name, TypeBook.ENUMERATION, 5, 1, 2000);
      d.due("value", d.book.value(name, 0), place);
    }
    d.due("its name", d.book.type(d.node(10, 110)), 5);
    d.due("one place", d.enumeration(120, 121), 6);
    d.due("64 places", d.book.enumeration(names(200, 64, 199)), 7);
    d.due("the last place", d.book.typeOf(7, 2), 63);
    d.book.enter();
    d.due("the same in an inner scope", d.book.enumeration(node), 8);
    d.looks("hides the outer one", d.name(112), TypeBook.ENUMERATION, 8, 1, 2000);
    d.due("over names of the beginning", d.enumeration(0, 6, 7, 15), 9);
  }

  private static void taken() {
    d.fresh();
    d.enumeration(110, 111, 112);
    int node = names(112, 3, 110);
    fault("its name first", node, 7, node);
    node = names(109, 3, 120);
    fault("the type's name is there", node, 7, node - 2);
    node = names(111, 3, 121);
    fault("the first NAME", node, 7, node - 3);
    node = d.node(53, 121, d.name(122), d.name(123), d.name(122), d.name(123));
    fault("one before", node, 7, node - 2);
    node = d.node(53, 121, d.name(122), d.name(121));
    fault("its own name", node, 7, node - 1);
    d.fault("faults declare nothing", d.name(122), 1);
    d.due("nor types", d.enumeration(121, 122), 6);
  }

  private static void malformed() {
    d.fresh();
    int node = d.node(53, 110);
    fault("no places", node, 11, node);
    node = names(200, 65, 110);
    fault("65 places", node, 11, node);
    node = d.number(1);
    fault("another kind", node, 11, node);
    int wrong = d.number(1);
    node = d.node(53, 110, wrong, d.name(111), d.number(2));
    fault("what is no NAME", node, 11, wrong);
    d.name(111);
    wrong = d.node(1, 112, d.number(1));
    node = d.book.add(53, 110, 2);
    fault("a NAME with children", node, 11, wrong);
    d.book.subtype(113, 0);
    wrong = d.number(1);
    fault("before names that are there", d.node(53, 113, wrong), 11, wrong);
    d.index("below", () -> d.book.enumeration(-1));
    d.index("above", () -> d.book.enumeration(5000));
  }

  private static void limits() {
    d.fresh();
    int first = names(1000, 64, 1064);
    int second = names(2000, 64, 2064);
    int third = names(3000, 8, 3008);
    for (int scope = 1; scope <= 23; scope++) {
      d.book.enumeration(first);
      d.book.enumeration(second);
      d.book.enter();
    }
    // 23 * 130 = 2990 names.
    d.due("2999 names", d.book.enumeration(third) > 0 ? 1 : 0, 1);
    d.book.enter();
    d.state("two more", () -> d.enumeration(10, 11));
    d.due("the 3000th", d.book.subtype(3001, 0), 0);
    d.due("a fault before the limit", d.book.subtype(3001, 0), -7);
    d.state("3001 by subtype", () -> d.book.subtype(3002, 0));
    d.state("3001 by declare", () -> d.book.declare(Desk.SIGNAL, 3002, 0, 0));
    d.due("a fault before the limit", d.book.declare(Desk.SIGNAL, 3001, 0, 0), -7);
    d.state("3001 by enumeration", () -> d.book.enumeration(first));
    d.book.leave();
    d.due("names go with their scope", d.book.declare(Desk.SIGNAL, 500, 0, 0), 0);
    d.book.leave();
    d.book.enter();
    d.book.subtype(500, 0);
    d.due("the 3000th by enumeration", d.book.enumeration(third) > 0 ? 1 : 0, 1);
    d.state("3001 by enumeration", () -> d.enumeration(10, 11));
  }
}
