import java.math.BigInteger;

/** check(): the values of constants. */
public final class Promise10Values {
  private static final Desk d = new Desk();
  private static final String SIGNS = "UX01ZWLH-";
  /** Rows are by a, columns by b, as the tables of std_logic have them. */
  private static final String[] AND = {"UU0UUU0UU", "UX0XXX0XX", "000000000", "UX01XX01X", "UX0XXX0XX", "UX0XXX0XX",
      "000000000", "UX01XX01X", "UX0XXX0XX"};
  private static final String[] OR = {"UUU1UUU1U", "UXX1XXX1X", "UX01XX01X", "111111111", "UXX1XXX1X", "UXX1XXX1X",
      "UX01XX01X", "111111111", "UXX1XXX1X"};
  private static final String[] XOR = {"UUUUUUUUU", "UXXXXXXXX", "UX01XX01X", "UX10XX10X", "UXXXXXXXX", "UXXXXXXXX",
      "UX01XX01X", "UX10XX10X", "UXXXXXXXX"};
  private static final String NOT = "UX10XX10X";

  public static void main(String[] args) {
    signs();
    truths();
    integers();
    comparisons();
    rowSums();
    wideSums();
    joinedAndShifted();
    functions();
    d.end();
  }

  private static char not(char sign) {
    return NOT.charAt(SIGNS.indexOf(sign));
  }

  private static void signs() {
    String[][] tables = {AND, OR, AND, OR, XOR, XOR};
    for (int operator = 0; operator < 6; operator++) {
      boolean turned = operator == 2 || operator == 3 || operator == 5;
      for (int a = 0; a < 9; a++) {
        d.fresh();
        StringBuilder due = new StringBuilder();
        for (int b = 0; b < 9; b++) {
          char plain = tables[operator][a].charAt(b);
          char sign = turned ? not(plain) : plain;
          due.append(sign);
          d.is("operator " + operator + " of " + a + " " + b, d.binary(operator, d.node(3, a), d.node(3, b)),
              TypeBook.LOGIC, SIGNS.indexOf(sign));
        }
        int row = d.row(String.valueOf(SIGNS.charAt(a)).repeat(9));
        d.isRow("operator " + operator + " of rows", d.binary(operator, row, d.row(SIGNS)), due.toString());
      }
    }
    for (int a = 0; a < 9; a++) {
      d.is("not " + a, d.unary(0, d.node(3, a)), TypeBook.LOGIC, SIGNS.indexOf(NOT.charAt(a)));
    }
    d.isRow("not", d.unary(0, d.row(SIGNS)), NOT);
  }

  private static void truths() {
    d.fresh();
    String[] due = {"0001", "0111", "1110", "1000", "0110", "1001", "1001", "0110"};
    for (int operator = 0; operator < due.length; operator++) {
      for (int i = 0; i < 4; i++) {
        int node = d.binary(operator, d.name(i < 2 ? Desk.FALSE : Desk.TRUE), d.name(i % 2 == 0 ? Desk.FALSE : Desk.TRUE));
        d.is("operator " + operator + " of truths " + i, node, TypeBook.TRUTH, due[operator].charAt(i) - '0');
      }
    }
    d.is("not true", d.unary(0, d.name(Desk.TRUE)), TypeBook.TRUTH, 0);
    d.is("not false", d.unary(0, d.name(Desk.FALSE)), TypeBook.TRUTH, 1);
  }

  private static void integer(int operator, int a, int b, int due) {
    d.is(a + " operator " + operator + " " + b, d.binary(operator, d.number(a), d.number(b)), TypeBook.INTEGER, due);
  }

  private static void integers() {
    d.fresh();
    int most = 2147483647;
    integer(Desk.SUM, 3, -5, -2);
    integer(Desk.SUM, most, -most, 0);
    integer(Desk.DIFFERENCE, -most, 0, -most);
    integer(Desk.PRODUCT, -46340, 46341, -2147441940);
    for (int[] row : new int[][] {{7, 2, 3, 1, 1}, {-7, 2, -3, 1, -1}, {7, -2, -3, -1, 1}, {-7, -2, 3, -1, -1},
        {6, -3, -2, 0, 0}, {0, -4, 0, 0, 0}, {-most, -1, most, 0, 0}, {1, most, 0, 1, 1}, {-1, most, 0, most - 1, -1}}) {
      integer(Desk.QUOTIENT, row[0], row[1], row[2]);
      integer(Desk.MODULUS, row[0], row[1], row[3]);
      integer(Desk.REMAINDER, row[0], row[1], row[4]);
    }
    d.is("minus", d.unary(1, d.number(-4)), TypeBook.INTEGER, 4);
    d.is("plus", d.unary(2, d.number(-4)), TypeBook.INTEGER, -4);
    d.is("size", d.unary(3, d.number(-4)), TypeBook.INTEGER, 4);
    d.is("size of the least", d.unary(3, d.number(-most)), TypeBook.INTEGER, most);
    d.fresh();
    d.fault("sum beyond", d.binary(Desk.SUM, d.number(most), d.number(1)), 9);
    d.fault("one below the least", d.binary(Desk.DIFFERENCE, d.number(-most), d.number(1)), 9);
    d.fault("product beyond", d.binary(Desk.PRODUCT, d.number(-65536), d.number(65536)), 9);
    d.fault("product far beyond", d.binary(Desk.PRODUCT, d.number(most), d.number(-most)), 9);
    for (int operator = 16; operator <= 18; operator++) {
      d.fault("by 0", d.binary(operator, d.number(0), d.number(0)), 10);
    }
    d.book.declare(Desk.SIGNAL, 100, Desk.INTEGERS, 0);
    d.looks("not computed", d.binary(Desk.PRODUCT, d.name(100), d.number(most)), TypeBook.INTEGER, 0, 0, TypeBook.NONE);
  }

  private static void compared(String what, int operator, int node, boolean due) {
    d.is(what + ", operator " + operator, node, TypeBook.TRUTH, due ? 1 : 0);
  }

  private static void comparisons() {
    String[] rows = {"0000", "L00L", "0001", "0H10", "1000", "1H1H", "1111", "000X", "U111"};
    int[] numbers = {0, 0, 1, 6, 8, 15, 15, -1, -1};
    for (int a = 0; a < rows.length; a++) {
      for (int b = 0; b < rows.length; b++) {
        d.fresh();
        boolean clear = numbers[a] >= 0 && numbers[b] >= 0;
        int order = Integer.compare(numbers[a], numbers[b]);
        boolean[] due = {a == b, a != b, clear && order < 0, clear && order <= 0, clear && order > 0,
            clear && order >= 0};
        for (int operator = 6; operator <= 11; operator++) {
          compared(rows[a] + " " + rows[b], operator, d.binary(operator, d.row(rows[a]), d.row(rows[b])),
              due[operator - 6]);
        }
      }
    }
    d.fresh();
    d.enumeration(110, 111, 112, 113);
    boolean[][] due = {{false, true, true, true, false, false}, {true, false, false, true, false, true},
        {false, true, false, false, true, true}};
    for (int operator = 6; operator <= 11; operator++) {
      compared("-3 2", operator, d.binary(operator, d.number(-3), d.number(2)), due[0][operator - 6]);
      compared("2 2", operator, d.binary(operator, d.number(2), d.number(2)), due[1][operator - 6]);
      compared("2 -3", operator, d.binary(operator, d.number(2), d.number(-3)), due[2][operator - 6]);
      compared("places", operator, d.binary(operator, d.name(111), d.name(113)), due[0][operator - 6]);
      compared("a place", operator, d.binary(operator, d.name(112), d.name(112)), due[1][operator - 6]);
    }
    compared("signs alike", 6, d.binary(6, d.sign('X'), d.sign('X')), true);
    compared("signs not alike", 6, d.binary(6, d.sign('1'), d.sign('H')), false);
    d.fresh();
    compared("64 wide", Desk.LESS, d.binary(Desk.LESS, d.row("0" + "1".repeat(63)), d.row("1" + "0".repeat(63))), true);
    compared("64 wide", Desk.MORE, d.binary(Desk.MORE, d.row("1".repeat(64)), d.row("0".repeat(64))), true);
  }

  private static void rowSums() {
    d.fresh();
    d.isRow("sum", d.binary(Desk.SUM, d.row("0HL1"), d.row("0011")), "1000");
    d.isRow("sum goes round", d.binary(Desk.SUM, d.row("1111"), d.row("0010")), "0001");
    d.isRow("difference", d.binary(Desk.DIFFERENCE, d.row("0001"), d.row("0010")), "1111");
    d.isRow("row and integer", d.binary(Desk.SUM, d.row("0001"), d.number(100)), "0101");
    d.isRow("row less integer", d.binary(Desk.DIFFERENCE, d.row("0001"), d.number(2147483647)), "0010");
    d.isRow("integer less row", d.binary(Desk.DIFFERENCE, d.number(-1), d.row("0001")), "1110");
    d.isRow("integer and row", d.binary(Desk.SUM, d.number(-1), d.row("0001")), "0000");
    for (char sign : "UXZW-".toCharArray()) {
      d.isRow("not clear", d.binary(Desk.SUM, d.row("00" + sign), d.row("001")), "XXX");
      d.isRow("not clear", d.binary(Desk.DIFFERENCE, d.row("001"), d.row("00" + sign)), "XXX");
      d.isRow("not clear", d.binary(Desk.DIFFERENCE, d.number(1), d.row("0" + sign)), "XX");
      d.isRow("not clear", d.binary(Desk.SUM, d.row("0" + sign), d.number(1)), "XX");
    }
  }

  private static String wide(BigInteger number) {
    String bits = number.mod(BigInteger.ONE.shiftLeft(64)).toString(2);
    return "0".repeat(64 - bits.length()) + bits;
  }

  private static void wideSums() {
    BigInteger a = new BigInteger("f123456789abcdef", 16);
    BigInteger b = new BigInteger("8edcba9876543213", 16);
    d.fresh();
    d.isRow("sum of 64", d.binary(Desk.SUM, d.row(wide(a)), d.row(wide(b))), wide(a.add(b)));
    d.fresh();
    d.isRow("difference of 64", d.binary(Desk.DIFFERENCE, d.row(wide(b)), d.row(wide(a))), wide(b.subtract(a)));
    d.fresh();
    d.isRow("less an integer", d.binary(Desk.DIFFERENCE, d.row(wide(BigInteger.ONE)), d.number(3)),
        wide(BigInteger.valueOf(-2)));
    d.isRow("an integer below 0", d.binary(Desk.SUM, d.number(-7), d.row(wide(b))), wide(b.subtract(BigInteger.valueOf(7))));
  }

  private static void joinedAndShifted() {
    d.fresh();
    d.isRow("signs", d.binary(Desk.JOINED, d.sign('U'), d.sign('-')), "U-");
    d.isRow("row and sign", d.binary(Desk.JOINED, d.row("01"), d.sign('H')), "01H");
    d.isRow("sign and row", d.binary(Desk.JOINED, d.sign('H'), d.row("01")), "H01");
    d.isRow("rows", d.binary(Desk.JOINED, d.row("LZ"), d.row("01X")), "LZ01X");
    int[] steps = {0, 1, 3, 4, 5, 64, 2147483647, -1, -2, -5, -2147483647};
    String[] left = {"UXH-", "XH-0", "-000", "0000", "0000", "0000", "0000", "0UXH", "00UX", "0000", "0000"};
    String[] right = {"UXH-", "0UXH", "000U", "0000", "0000", "0000", "0000", "XH-0", "H-00", "0000", "0000"};
    for (int i = 0; i < steps.length; i++) {
      d.isRow("left by " + steps[i], d.binary(Desk.LEFT, d.row("UXH-"), d.number(steps[i])), left[i]);
      d.isRow("right by " + steps[i], d.binary(Desk.RIGHT, d.row("UXH-"), d.number(steps[i])), right[i]);
    }
    d.fresh();
    d.isRow("64 joined", d.binary(Desk.JOINED, d.row("1".repeat(63)), d.sign('0')), "1".repeat(63) + "0");
    d.fault("65 joined", d.binary(Desk.JOINED, d.row("1".repeat(64)), d.sign('0')), 4);
  }

  private static void functions() {
    d.fresh();
    d.is("number", d.apply(Desk.NUMBER, d.row("1HL0")), TypeBook.INTEGER, 12);
    d.is("greatest number", d.apply(Desk.NUMBER, d.row("0" + "1".repeat(31))), TypeBook.INTEGER, 2147483647);
    d.fault("number beyond", d.apply(Desk.NUMBER, d.row("1" + "0".repeat(31))), 9);
    d.fault("number not clear", d.apply(Desk.NUMBER, d.row("0Z")), 9);
    d.fault("number far beyond", d.apply(Desk.NUMBER, d.row("1" + "0".repeat(63))), 9);
    d.fresh();
    d.isRow("bits", d.apply(Desk.BITS, d.number(5), d.number(4)), "0101");
    d.isRow("lowest bits", d.apply(Desk.BITS, d.number(13), d.number(2)), "01");
    d.isRow("below 0", d.apply(Desk.BITS, d.number(-2), d.number(3)), "110");
    d.isRow("all 64", d.apply(Desk.BITS, d.number(-2), d.number(64)), "1".repeat(63) + "0");
    d.isRow("of one", d.apply(Desk.BITS, d.number(3), d.number(1)), "1");
  }
}
