import java.util.ArrayList;
import java.util.List;

/** check(): which operators take which classes, and of which class the answers are. */
public final class Promise10Classes {
  private static final Desk d = new Desk();
  /** Names of signals: LOGIC, TRUTH, INTEGER, rows of 4, 4 and 8, two ENUMERATIONs. */
  private static final int[] OPERANDS = {200, 201, 202, 203, 204, 205, 206, 207};
  private static final String LETTERS = "LTIRRSEF";

  public static void main(String[] args) {
    for (int operator = 0; operator <= 20; operator++) {
      binary(operator);
    }
    unary();
    typed();
    leaves();
    d.end();
  }

  private static void signals() {
    d.fresh();
    int row = d.rowDown(3, 0);
    int same = d.rowUp(5, 8);
    int longer = d.rowUp(0, 7);
    int[] types = {Desk.LOGIC, Desk.TRUTH, Desk.FROM_0, row, same, longer, d.enumeration(110, 111),
        d.enumeration(120, 121)};
    for (int i = 0; i < types.length; i++) {
      d.book.declare(i % 2 == 0 ? Desk.SIGNAL : Desk.VARIABLE, OPERANDS[i], types[i], 0);
    }
  }

  /** The class and length due, as class * 100 + length, or the fault below 0. */
  private static int due(int operator, char a, char b) {
    boolean rows = "RS".indexOf(a) >= 0 && "RS".indexOf(b) >= 0;
    boolean integers = a == 'I' && b == 'I';
    if (operator == 14) {
      return "LRS".indexOf(a) < 0 || "LRS".indexOf(b) < 0 ? -3 : 300 + width(a) + width(b);
    }
    if (operator >= 15 && operator <= 18) {
      return integers ? 200 : -3;
    }
    if (operator >= 19) {
      return "RS".indexOf(a) >= 0 && b == 'I' ? 300 + width(a) : -3;
    }
    if (rows && a != b) {
      return -4;
    }
    if (operator >= 12) {
      boolean mixed = "RS".indexOf(a) >= 0 && b == 'I' || a == 'I' && "RS".indexOf(b) >= 0;
      return integers ? 200 : rows ? 300 + width(a) : mixed ? 300 + width(a == 'I' ? b : a) : -3;
    }
    if (a != b || operator < 6 && "LTRS".indexOf(a) < 0 || operator > 7 && "LT".indexOf(a) >= 0) {
      return -3;
    }
    return operator >= 6 ? 100 : rows ? 300 + width(a) : a == 'T' ? 100 : 0;
  }

  private static int width(char letter) {
    return letter == 'L' ? 1 : letter == 'R' ? 4 : 8;
  }

  private static void binary(int operator) {
    for (int i = 0; i < OPERANDS.length; i++) {
      signals();
      for (int j = 0; j < OPERANDS.length; j++) {
        int node = d.binary(operator, d.name(OPERANDS[i]), d.name(OPERANDS[j]));
        int due = due(operator, LETTERS.charAt(i), LETTERS.charAt(j));
        String what = "operator " + operator + " of " + LETTERS.charAt(i) + LETTERS.charAt(j);
        if (due < 0) {
          d.fault(what, node, -due);
        } else {
          d.looks(what, node, due / 100, due % 100, 0, TypeBook.NONE);
        }
      }
    }
  }

  private static void unary() {
    signals();
    int enumeration = d.book.type(d.node(10, 110));
    int[] kinds = {0, 1, 2, 3, 3, 3, 4, 4};
    int[] extents = {0, 0, 0, 4, 4, 8, enumeration, enumeration + 1};
    for (int i = 0; i < OPERANDS.length; i++) {
      for (int operator = 0; operator < 4; operator++) {
        int node = d.unary(operator, d.name(OPERANDS[i]));
        if (operator == 0 ? "LTRS".indexOf(LETTERS.charAt(i)) >= 0 : LETTERS.charAt(i) == 'I') {
          d.looks("unary " + operator, node, kinds[i], extents[i], 0, TypeBook.NONE);
        } else {
          d.fault("unary " + operator, node, 3);
        }
      }
    }
  }

  private static void typed() {
    signals();
    List<Integer> types = new ArrayList<>();
    for (int type = 0; type <= 9; type++) {
      types.add(type);
    }
    String classes = "LTIIIRRSEF";
    for (int i = 0; i < OPERANDS.length; i++) {
      int node = d.name(OPERANDS[i]);
      for (int type : types) {
        char own = LETTERS.charAt(i);
        char wanted = classes.charAt(type);
        boolean rows = (own == 'R' || own == 'S') && (wanted == 'R' || wanted == 'S');
        d.due("signal " + own + " as type " + type, d.book.check(node, type), own == wanted ? 0 : rows ? -4 : -3);
        d.due("place", d.book.place(), own == wanted ? TypeBook.NONE : node);
      }
    }
    int low = d.number(-1);
    d.due("from -", d.book.check(low, Desk.INTEGERS), 0);
    d.fault("below 0", low, Desk.FROM_0, 8, low);
    int none = d.number(0);
    d.due("0", d.book.check(none, Desk.FROM_0), 0);
    d.fault("below 1", none, Desk.FROM_1, 8, none);
    int range = d.range(3, 5);
    int above = d.number(6);
    d.fault("above", above, range, 8, above);
    d.due("greatest", d.book.check(d.number(5), range), 0);
    d.index("no type", () -> d.book.check(above, 99));
    d.index("no type", () -> d.book.check(above, -2));
    d.index("no node", () -> d.book.check(-1, TypeBook.NONE));
    d.index("no node", () -> d.book.check(9999, TypeBook.NONE));
  }

  private static void leaves() {
    signals();
    d.is("least number", d.node(2, 0), TypeBook.INTEGER, 0);
    d.fault("number below 0", d.node(2, -1), 11);
    d.fault("number with a child", d.node(2, 1, d.number(1)), 11);
    d.is("greatest sign", d.node(3, 8), TypeBook.LOGIC, 8);
    d.fault("sign below", d.node(3, -1), 11);
    d.fault("sign above", d.node(3, 9), 11);
    d.isRow("row of one", d.row("Z"), "Z");
    d.isRow("a row's value is free", d.node(4, -5, d.sign('1'), d.sign('0')), "10");
    d.fault("no signs", d.node(4, 0), 11);
    d.fault("a row of numbers", d.node(4, 0, d.sign('1'), d.number(1)), 11);
    d.fault("unary below", d.node(20, -1, d.number(1)), 11);
    d.fault("unary above", d.node(20, 4, d.number(1)), 11);
    d.fault("unary of none", d.node(20, 1), 11);
    d.fault("unary of two", d.node(20, 1, d.number(1), d.number(1)), 11);
    d.fault("binary below", d.node(21, -1, d.number(1), d.number(1)), 11);
    d.fault("binary above", d.node(21, 21, d.number(1), d.number(1)), 11);
    d.fault("binary of one", d.node(21, 12, d.number(1)), 11);
    d.fault("binary of three", d.node(21, 12, d.number(1), d.number(1), d.number(1)), 11);
    for (int kind : new int[] {0, 5, 9, 10, 11, 12, 13, 14, 19, 26, 53, 99}) {
      d.fault("kind " + kind, d.node(kind, 0), 11);
    }
    d.fresh();
    d.isRow("64 signs", d.row("10".repeat(32)), "10".repeat(32));
    d.fault("65 signs", d.row("1".repeat(65)), 11);
  }
}
