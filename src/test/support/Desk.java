/** A book under test, short ways to make its trees, and the count of answers that were not as due. */
final class Desk {
  interface Call {
    long answer();
  }

  static final int AND = 0, OR = 1, NAND = 2, NOR = 3, XOR = 4, XNOR = 5, SAME = 6, NOT_SAME = 7, LESS = 8,
      NOT_MORE = 9, MORE = 10, NOT_LESS = 11, SUM = 12, DIFFERENCE = 13, JOINED = 14, PRODUCT = 15, QUOTIENT = 16,
      MODULUS = 17, REMAINDER = 18, LEFT = 19, RIGHT = 20;
  static final int LOGIC = 0, TRUTH = 1, INTEGERS = 2, FROM_0 = 3, FROM_1 = 4;
  static final int CONSTANT = 0, SIGNAL = 1, VARIABLE = 2;
  static final int TRUE = 6, FALSE = 7, RISING = 8, FALLING = 9, NUMBER = 10, BITS = 11;
  /** A name that no test declares. */
  static final int NOTHING = 99;
  private static final String SIGNS = "UX01ZWLH-";

  TypeBook book = new TypeBook();
  private int wrong = 0;

  void fresh() {
    book = new TypeBook();
  }

  void due(String what, long got, long want) {
    if (got != want) {
      wrong++;
      System.out.println(what + " answered " + got + ", due is " + want);
    }
  }

  void index(String what, Call call) {
    dueThrow(what, call, IndexOutOfBoundsException.class);
  }

  void argument(String what, Call call) {
    dueThrow(what, call, IllegalArgumentException.class);
  }

  void state(String what, Call call) {
    dueThrow(what, call, IllegalStateException.class);
  }

  void dueThrow(String what, Call call, Class<?> due) {
    String got;
    try {
      got = "answered " + call.answer();
    } catch (RuntimeException e) {
      if (e.getClass() == due) {
        return;
      }
      got = "threw " + e;
    }
    wrong++;
    System.out.println(what + " " + got + ", due is " + due.getSimpleName());
  }

  void end() {
    if (wrong > 0) {
      System.out.println(wrong + " answers are not as due");
      System.exit(1);
    }
  }

  int node(int kind, int value, int... children) {
    return book.add(kind, value, children.length);
  }

  int name(int name) {
    return node(1, name);
  }

  int number(int v) {
    return v >= 0 ? node(2, v) : node(20, 1, node(2, -v));
  }

  int sign(char sign) {
    return node(3, SIGNS.indexOf(sign));
  }

  int row(String signs) {
    for (int i = 0; i < signs.length(); i++) {
      sign(signs.charAt(i));
    }
    return book.add(4, 0, signs.length());
  }

  int unary(int operator, int a) {
    return node(20, operator, a);
  }

  int binary(int operator, int a, int b) {
    return node(21, operator, a, b);
  }

  int apply(int name, int... arguments) {
    return node(22, name, arguments);
  }

  int sliceUp(int name, int from, int to) {
    return node(23, name, from, to);
  }

  int sliceDown(int name, int from, int to) {
    return node(24, name, from, to);
  }

  int attribute(int name, int which) {
    return node(25, name, name(which));
  }

  int range(int low, int high) {
    return book.type(node(11, 0, number(low), number(high)));
  }

  int rowUp(int left, int right) {
    return book.type(node(12, 5, number(left), number(right)));
  }

  int rowDown(int left, int right) {
    return book.type(node(13, 5, number(left), number(right)));
  }

  int enumeration(int name, int... places) {
    for (int place : places) {
      name(place);
    }
    return book.enumeration(book.add(53, name, places.length));
  }

  void constant(int name, int type, int node) {
    if (book.declare(CONSTANT, name, type, node) < 0) {
      throw new AssertionError("constant " + name);
    }
  }

  /** The expression is refused, with this fault at this node. */
  void fault(String what, int node, int type, int fault, int at) {
    due(what + ": check", book.check(node, type), -fault);
    due(what + ": place", book.place(), at);
  }

  void fault(String what, int node, int fault) {
    fault(what, node, TypeBook.NONE, fault, node);
  }

  /** A refused call leaves the place of the latest fault, and there is one. */
  void stateKeepsPlace(String what, Call call) {
    int wrongNode = name(NOTHING);
    fault(what + ": a fault before", wrongNode, 1);
    state(what, call);
    due(what + ": the place stays", book.place(), wrongNode);
  }

  void looks(String what, int node, int kind, int extent, int constant, int meaning) {
    due(what + ": check", book.check(node, TypeBook.NONE), 0);
    due(what + ": place", book.place(), TypeBook.NONE);
    due(what + ": class", book.about(node, 0), kind);
    due(what + ": extent", book.about(node, 1), extent);
    due(what + ": constant", book.about(node, 2), constant);
    due(what + ": meaning", book.about(node, 3), meaning);
  }

  /** A constant of a class that is no row, with its value. */
  void is(String what, int node, int kind, int value) {
    due(what + ": check", book.check(node, TypeBook.NONE), 0);
    due(what + ": class", book.about(node, 0), kind);
    due(what + ": constant", book.about(node, 2), 1);
    due(what + ": value", book.value(node, -5), value);
  }

  void isRow(String what, int node, String signs) {
    due(what + ": check", book.check(node, TypeBook.NONE), 0);
    due(what + ": class", book.about(node, 0), TypeBook.ROW);
    due(what + ": length", book.about(node, 1), signs.length());
    due(what + ": constant", book.about(node, 2), 1);
    StringBuilder got = new StringBuilder();
    for (int k = Math.min(signs.length(), book.about(node, 1)) - 1; k >= 0; k--) {
      got.append(SIGNS.charAt(book.value(node, k)));
    }
    if (!got.toString().equals(signs)) {
      wrong++;
      System.out.println(what + ": is " + got + ", due is " + signs);
    }
  }

  void isUnknown(String what, int node) {
    for (int part = 0; part < 4; part++) {
      due(what + ": about " + part, book.about(node, part), TypeBook.NONE);
    }
    state(what + ": value", () -> book.value(node, 0));
  }
}
