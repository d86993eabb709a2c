/** "A call that throws changes nothing; a fault neither.": each fault by each call, and of what was looked at before. */
public final class EdgesOfRefusals {
  private static final int MOST = 2147483647;
  private static final Desk d = new Desk();
  private static final Refusals refusals = new Refusals(d);

  public static void main(String[] args) {
    for (int fault : new int[] {1, 2, 3, 4, 5, 6, 9, 10, 11}) {
      byCheck(fault);
      byDeclare(fault);
      byType(fault);
    }
    outside();
    lookedAtBefore();
    lookedAtInAnotherScope();
    severalInARow();
    d.end();
  }

  private static int faulty(int fault) {
    switch (fault) {
      case 1:
        return d.name(Desk.NOTHING);
      case 2:
        return d.name(Refusals.SMALL);
      case 3:
        return d.unary(1, d.sign('1'));
      case 4:
        return d.binary(Desk.AND, d.row("01"), d.row("011"));
      case 5:
        return d.sliceDown(Refusals.ROW_SIGNAL, d.name(Refusals.VARIABLE), d.number(0));
      case 6:
        return d.apply(Refusals.ROW_SIGNAL, d.number(4));
      case 9:
        return d.binary(Desk.PRODUCT, d.number(MOST), d.number(MOST));
      case 10:
        return d.binary(Desk.MODULUS, d.number(MOST), d.number(0));
      default:
        return d.node(26, 0, d.number(1));
    }
  }

  private static void byCheck(int fault) {
    refusals.fault("check, " + fault, fault, () -> faulty(fault), node -> d.book.check(node, TypeBook.NONE));
    refusals.fault("check below, " + fault, fault, node -> node - 1, () -> d.unary(0, faulty(fault)),
        node -> d.book.check(node, TypeBook.NONE));
    refusals.fault("check behind what is right, " + fault, fault, node -> node - 1,
        () -> d.binary(Desk.SAME, d.row("0Z"), faulty(fault)), node -> d.book.check(node, Desk.TRUTH));
  }

  private static void byDeclare(int fault) {
    refusals.fault("declare, " + fault, fault, node -> node - 1, () -> d.unary(0, faulty(fault)),
        node -> d.book.declare(Desk.CONSTANT, Refusals.FREE, Desk.LOGIC, node));
  }

  private static void byType(int fault) {
    refusals.fault("type, " + fault, fault, node -> node - 1, () -> d.node(11, 0, d.number(1), faulty(fault)),
        node -> d.book.type(node));
  }

  private static void outside() {
    refusals.fault("check", 8, () -> d.unary(3, d.number(5)), node -> d.book.check(node, Refusals.SMALL_TYPE));
    refusals.fault("declare", 8, () -> d.unary(3, d.number(5)),
        node -> d.book.declare(Desk.CONSTANT, Refusals.FREE, Refusals.SMALL_TYPE, node));
    refusals.fault("type", 8, () -> d.node(11, 0, d.unary(3, d.number(5)), d.number(4)), node -> d.book.type(node));
  }

  /** A node that has been looked at stays as it was. */
  private static void lookedAtBefore() {
    refusals.fault("check", 3, () -> refusals.looked, node -> d.book.check(node, Desk.LOGIC));
    refusals.fault("declare", 3, () -> refusals.looked,
        node -> d.book.declare(Desk.CONSTANT, Refusals.FREE, Desk.LOGIC, node));
    refusals.fault("declare, 7", 7, node -> TypeBook.NONE, () -> refusals.looked,
        node -> d.book.declare(Desk.CONSTANT, Refusals.SMALL, Desk.TRUTH, node));
    refusals.fault("type", 11, () -> refusals.looked, node -> d.book.type(node));
    refusals.fault("enumeration", 11, () -> refusals.looked, node -> d.book.enumeration(node));
  }

  /** A constant row, that is then looked at where its name means a signal of TRUTH. */
  private static int lookedAtThenHidden() {
    int node = d.unary(0, d.name(Refusals.CONSTANT));
    d.due("a row", d.book.check(node, Refusals.DOWN_TYPE), 0);
    d.book.enter();
    d.book.declare(Desk.SIGNAL, Refusals.CONSTANT, Desk.TRUTH, 0);
    return node;
  }

  private static void lookedAtInAnotherScope() {
    refusals.fault("check", 3, EdgesOfRefusals::lookedAtThenHidden, node -> d.book.check(node, Refusals.DOWN_TYPE));
    refusals.fault("declare", 5, EdgesOfRefusals::lookedAtThenHidden,
        node -> d.book.declare(Desk.CONSTANT, Refusals.FREE, Desk.TRUTH, node));
    refusals.fault("its part", 3, node -> node - 1, EdgesOfRefusals::lookedAtThenHidden,
        node -> d.book.check(node - 1, Refusals.DOWN_TYPE));
  }

  /** The latest of the faults is the scene's own, so that the place is as before, too. */
  private static void severalInARow() {
    refusals.argument("each of them", () -> d.name(Desk.NOTHING), node -> {
      d.book.subtype(Refusals.SMALL, Desk.LOGIC);
      d.book.declare(Desk.SIGNAL, Refusals.RED, Desk.LOGIC, 0);
      d.book.type(node);
      d.book.enumeration(node);
      d.book.check(Refusals.NO_NODE - 1, TypeBook.NONE);
      return d.book.add(1, -1, 0);
    });
  }
}
