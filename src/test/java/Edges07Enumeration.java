/** Promise 7 and ENUM, at their edges. */
public final class Edges07Enumeration {
  private static final Desk d = new Desk();
  private static final Refusals refusals = new Refusals(d);

  public static void main(String[] args) {
    nodes();
    kind();
    from1To64();
    childrenFirst();
    taken();
    notTaken();
    full();
    fullOfTypes();
    d.end();
  }

  private static void leaves(int first, int count) {
    for (int i = 0; i < count; i++) {
      d.name(first + i);
    }
  }

  private static int names(int own, int first, int count) {
    leaves(first, count);
    return d.book.add(53, own, count);
  }

  /** A fault so many nodes before the ENUM. */
  private static void fault(String what, int fault, int before, Refusals.Make make) {
    refusals.fault(what, fault, node -> node - before, make, node -> d.book.enumeration(node));
  }

  /** "IndexOutOfBoundsException" */
  private static void nodes() {
    d.fresh();
    d.due("the last node", d.enumeration(100, 101), 5);
    for (int node : new int[] {-1, Refusals.NO_NODE, Integer.MIN_VALUE, Integer.MAX_VALUE}) {
      refusals.index("node " + node, () -> d.book.enumeration(node));
    }
  }

  /** "A node of kind 53" */
  private static void kind() {
    for (int kind : new int[] {0, 1, 10, 22, 52, 54, 99}) {
      fault("kind " + kind, 11, 0, () -> d.node(kind, Refusals.FREE, d.name(Refusals.FREE + 1)));
    }
    fault("a NAME alone", 11, 0, () -> d.name(Refusals.FREE));
  }

  /** "NAMEs, 1 to 64": "its places with theirs", "values by their places, 0 ..", "the last place" */
  private static void from1To64() {
    for (int count : new int[] {1, 2, 63, 64}) {
      d.fresh();
      d.due(count + " places", d.book.enumeration(names(0, 100, count)), 5);
      d.due("place", d.book.place(), TypeBook.NONE);
      d.due("its class", d.book.typeOf(5, 0), TypeBook.ENUMERATION);
      d.due("the first place", d.book.typeOf(5, 1), 0);
      d.due("the last place", d.book.typeOf(5, 2), count - 1);
      d.due("how many", d.book.typeOf(5, 3), count);
      d.due("no row", d.book.typeOf(5, 4), 0);
      d.due("its name", d.book.type(d.node(10, 0)), 5);
      d.is("the first", d.name(100), TypeBook.ENUMERATION, 0);
      int last = d.name(100 + count - 1);
      d.looks("the last", last, TypeBook.ENUMERATION, 5, 1, 2000);
      d.due("its value", d.book.value(last, 0), count - 1);
      d.fault("none behind", d.name(100 + count), 1);
    }
    fault("none", 11, 0, () -> d.node(53, Refusals.FREE));
    fault("65", 11, 0, () -> names(Refusals.FREE, Refusals.FREE + 1, 65));
    d.fresh();
    d.due("least and greatest names", d.enumeration(9999, 0, 9998), 5);
    d.is("the least", d.name(0), TypeBook.ENUMERATION, 0);
    d.is("the greatest but one", d.name(9998), TypeBook.ENUMERATION, 1);
    d.due("the greatest", d.book.type(d.node(10, 9999)), 5);
  }

  /** "The fault's NODE is the first one that has any, children before their parent, from the left" */
  private static void childrenFirst() {
    fault("65, the first no NAME", 11, 65, () -> {
      d.number(1);
      leaves(Refusals.FREE + 1, 64);
      return d.book.add(53, Refusals.FREE, 65);
    });
    fault("65, the last no NAME", 11, 1, () -> {
      leaves(Refusals.FREE + 1, 64);
      d.number(1);
      return d.book.add(53, Refusals.FREE, 65);
    });
    fault("66, the last two no leaves", 11, 3, () -> {
      leaves(Refusals.FREE + 1, 64);
      d.node(1, Refusals.FREE, d.number(1));
      d.node(1, Refusals.FREE, d.number(1));
      return d.book.add(53, Refusals.FREE, 66);
    });
  }

  /**
   * "7 at the node, whose name is looked at first, or at the first NAME that is there, that a NAME before it is, or
   * that is its own name"; the innermost scope of the scene has SMALL, ROW_SIGNAL and RED.
   */
  private static void taken() {
    int free = Refusals.FREE;
    fault("its name", 7, 0, () -> d.node(53, Refusals.SMALL, d.name(free)));
    fault("its name first", 7, 0, () -> d.node(53, Refusals.SMALL, d.name(Refusals.RED), d.name(Refusals.SMALL)));
    fault("the first NAME", 7, 2, () -> d.node(53, free, d.name(Refusals.RED), d.name(free + 1)));
    fault("the last NAME", 7, 1, () -> d.node(53, free, d.name(free + 1), d.name(Refusals.ROW_SIGNAL)));
    fault("the first of two", 7, 2,
        () -> d.node(53, free, d.name(free + 1), d.name(Refusals.SMALL), d.name(Refusals.RED)));
    fault("one right before", 7, 1, () -> d.node(53, free, d.name(free + 1), d.name(free + 1)));
    fault("the first of all", 7, 1, () -> d.node(53, free, d.name(free + 1), d.name(free + 2), d.name(free + 1)));
    fault("its own name at first", 7, 2, () -> d.node(53, free, d.name(free), d.name(free + 1)));
    fault("its own name at last", 7, 1, () -> d.node(53, free, d.name(free + 1), d.name(free)));
    fault("the 64th like the first", 7, 1, () -> {
      for (int i = 1; i <= 63; i++) {
        d.name(free + i);
      }
      d.name(free + 1);
      return d.book.add(53, free, 64);
    });
    fault("11 before 7", 11, 0, () -> d.node(53, Refusals.SMALL));
  }

  /** "in the innermost scope": what outer ones have is free, and so is what the beginning has. */
  private static void notTaken() {
    d.fresh();
    int first = names(100, 101, 2);
    d.due("outside", d.book.enumeration(first), 5);
    d.due("there again", d.book.enumeration(first), -7);
    d.book.enter();
    d.due("inside", d.book.enumeration(first), 6);
    d.looks("the inner place", d.name(102), TypeBook.ENUMERATION, 6, 1, 2000);
    d.book.leave();
    d.looks("the outer place", d.name(102), TypeBook.ENUMERATION, 5, 1, 2000);
    d.due("names of the beginning", d.enumeration(3, 0, 6, 11, 15, 22), 7);
    d.is("true is a place", d.name(6), TypeBook.ENUMERATION, 1);
  }

  /** 23 scopes with 130 names each are 2990, and the innermost one has 9 more. */
  private static void namesBut1() {
    int first = names(1064, 1000, 64);
    int second = names(2064, 2000, 64);
    int third = names(3008, 3000, 8);
    for (int scope = 1; scope <= 23; scope++) {
      d.book.enumeration(first);
      d.book.enumeration(second);
      d.book.enter();
    }
    d.book.enumeration(third);
  }

  /** "IllegalStateException when there would be more than .. 3000 names." */
  private static void full() {
    d.fresh();
    namesBut1();
    int two = names(3009, 3010, 1);
    d.stateKeepsPlace("the 3000th and 3001st", () -> d.book.enumeration(two));
    d.fault("neither is there", d.name(3009), 1);
    d.fault("neither is there", d.name(3010), 1);
    d.index("nor is the type", () -> d.book.typeOf(52, 0));
    d.due("the 3000th", d.book.subtype(3011, 0), 0);
    d.state("two more", () -> d.book.enumeration(two));
    d.fresh();
    namesBut1();
    d.book.leave();
    d.book.enter();
    int ten = names(4009, 4000, 9);
    d.due("2991 to 3000 by one call", d.book.enumeration(ten), 52);
    d.is("the 3000th", d.name(4008), TypeBook.ENUMERATION, 8);
    int more = names(4011, 4010, 1);
    d.state("two more", () -> d.book.enumeration(more));
    d.due("a fault is told though there is no room", d.book.enumeration(ten), -7);
    d.book.leave();
    d.book.enter();
    int eleven = names(4010, 4000, 10);
    d.state("2991 to 3001 by one call", () -> d.book.enumeration(eleven));
    d.due("2991 to 3000 again", d.book.enumeration(ten), 53);
  }

  /** "more than 1000 types": beyond 512 calls, so answers are free there. */
  private static void fullOfTypes() {
    d.fresh();
    int range = d.node(11, 0, d.number(1), d.number(2));
    int node = names(100, 101, 1);
    int other = names(200, 201, 1);
    for (int type = 5; type <= 998; type++) {
      d.book.type(range);
    }
    d.due("the 1000th", d.book.enumeration(node), 999);
    d.stateKeepsPlace("the 1001st", () -> d.book.enumeration(other));
    d.fault("its place is not there", d.name(201), 1);
    d.due("a fault is told though there is no room", d.book.enumeration(node), -7);
  }
}
