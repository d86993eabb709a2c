import java.math.BigInteger;

/** The term VALUES, at its edges: what goes beyond, what is by 0, what is not CLEAR, what is below 0, and shifts. */
public final class EdgesOfValues {
  private static final int MOST = 2147483647;
  private static final String NOT_CLEAR = "UXZW-";
  private static final Desk d = new Desk();
  private static final Refusals refusals = new Refusals(d);

  public static void main(String[] args) {
    integersBeyond();
    byNothing();
    divided();
    notComputed();
    numbersOfRows();
    sumsWithoutWhatGoesBeyond();
    integersByTheirLowestBits();
    sumsThatAreNotClear();
    comparedByNumbers();
    comparedThatAreNotClear();
    alike();
    comparedAtTheEnds();
    shifted();
    lowestBits();
    d.end();
  }

  private static void is(int a, int operator, int b, int due) {
    d.fresh();
    d.is(a + " operator " + operator + " " + b, d.binary(operator, d.number(a), d.number(b)), TypeBook.INTEGER, due);
  }

  private static void beyond(int a, int operator, int b) {
    refusals.fault(a + " operator " + operator + " " + b, 9, () -> d.binary(operator, d.number(a), d.number(b)),
        node -> d.book.check(node, TypeBook.NONE));
  }

  /** "INTEGERs: 9 when the result is beyond" */
  private static void integersBeyond() {
    is(MOST - 1, Desk.SUM, 1, MOST);
    is(MOST, Desk.SUM, 0, MOST);
    is(-MOST, Desk.SUM, MOST, 0);
    is(-MOST + 1, Desk.SUM, -1, -MOST);
    beyond(MOST, Desk.SUM, 1);
    beyond(1, Desk.SUM, MOST);
    beyond(-MOST, Desk.SUM, -1);
    beyond(MOST, Desk.SUM, MOST);
    beyond(-MOST, Desk.SUM, -MOST);
    is(MOST - 1, Desk.DIFFERENCE, -1, MOST);
    is(0, Desk.DIFFERENCE, MOST, -MOST);
    is(0, Desk.DIFFERENCE, -MOST, MOST);
    is(-MOST + 1, Desk.DIFFERENCE, 1, -MOST);
    beyond(MOST, Desk.DIFFERENCE, -1);
    beyond(1, Desk.DIFFERENCE, -MOST);
    beyond(-1, Desk.DIFFERENCE, MOST);
    beyond(-MOST, Desk.DIFFERENCE, 1);
    beyond(-MOST, Desk.DIFFERENCE, MOST);
    is(MOST, Desk.PRODUCT, 1, MOST);
    is(MOST, Desk.PRODUCT, -1, -MOST);
    is(MOST, Desk.PRODUCT, 0, 0);
    is(46340, Desk.PRODUCT, 46341, 2147441940);
    is(715827882, Desk.PRODUCT, -3, -2147483646);
    is(32768, Desk.PRODUCT, 65535, 2147450880);
    beyond(32768, Desk.PRODUCT, 65536);
    beyond(-32768, Desk.PRODUCT, 65536);
    beyond(46341, Desk.PRODUCT, 46341);
    beyond(65536, Desk.PRODUCT, 65536);
    beyond(1073741824, Desk.PRODUCT, -2);
    beyond(MOST, Desk.PRODUCT, MOST);
    beyond(-MOST, Desk.PRODUCT, MOST);
  }

  /** "10 by 0": of all three, whatever is divided. */
  private static void byNothing() {
    for (int operator = Desk.QUOTIENT; operator <= Desk.REMAINDER; operator++) {
      for (int a : new int[] {0, 1, -1, MOST, -MOST}) {
        int by = operator;
        refusals.fault(a + " operator " + operator + " 0", 10, () -> d.binary(by, d.number(a), d.number(0)),
            node -> d.book.check(node, TypeBook.NONE));
      }
      is(0, operator, 1, 0);
      is(0, operator, -1, 0);
      is(0, operator, -MOST, 0);
    }
    d.fresh();
    d.fault("by what is 0 at last", d.binary(Desk.QUOTIENT, d.number(1),
        d.binary(Desk.DIFFERENCE, d.number(2), d.number(2))), 10);
  }

  /** "16 quotient (towards 0), 17 modulus (with the sign of b), 18 remainder (with the sign of a)" */
  private static void divided() {
    int[][] due = {{7, 3, 2, 1, 1}, {-7, 3, -2, 2, -1}, {7, -3, -2, -2, 1}, {-7, -3, 2, -1, -1}, {6, 3, 2, 0, 0},
        {-6, 3, -2, 0, 0}, {6, -3, -2, 0, 0}, {2, 3, 0, 2, 2}, {-2, 3, 0, 1, -2}, {2, -3, 0, -1, 2},
        {-2, -3, 0, -2, -2}, {MOST, 1, MOST, 0, 0}, {MOST, -1, -MOST, 0, 0}, {-MOST, 1, -MOST, 0, 0}, {-MOST, -1, MOST, 0, 0},
        {MOST, MOST, 1, 0, 0}, {-MOST, MOST, -1, 0, 0}, {MOST, -MOST, -1, 0, 0}, {1, -MOST, 0, -MOST + 1, 1},
        {-1, MOST, 0, MOST - 1, -1}, {MOST - 1, MOST, 0, MOST - 1, MOST - 1}, {-MOST, 2, -1073741823, 1, -1}};
    for (int[] row : due) {
      is(row[0], Desk.QUOTIENT, row[1], row[2]);
      is(row[0], Desk.MODULUS, row[1], row[3]);
      is(row[0], Desk.REMAINDER, row[1], row[4]);
    }
  }

  /** Values are of "those that are constant": of others no result can be beyond. */
  private static void notComputed() {
    d.fresh();
    d.book.declare(Desk.VARIABLE, 100, Desk.FROM_1, 0);
    d.book.declare(Desk.VARIABLE, 101, d.rowDown(63, 0), 0);
    for (int operator : new int[] {Desk.SUM, Desk.DIFFERENCE, Desk.PRODUCT, Desk.QUOTIENT, Desk.MODULUS}) {
      d.looks("operator " + operator, d.binary(operator, d.number(-MOST), d.name(100)), TypeBook.INTEGER, 0, 0,
          TypeBook.NONE);
      d.looks("operator " + operator, d.binary(operator, d.name(100), d.number(MOST)), TypeBook.INTEGER, 0, 0,
          TypeBook.NONE);
    }
    d.looks("0 by it", d.binary(Desk.QUOTIENT, d.number(0), d.name(100)), TypeBook.INTEGER, 0, 0, TypeBook.NONE);
    d.looks("a number of 64", d.apply(Desk.NUMBER, d.name(101)), TypeBook.INTEGER, 0, 0, 3000);
  }

  /** 9: "also the number of a row that is not CLEAR, or beyond" */
  private static void numbersOfRows() {
    d.fresh();
    d.is("0 of one", d.apply(Desk.NUMBER, d.row("L")), TypeBook.INTEGER, 0);
    d.is("the greatest of 31", d.apply(Desk.NUMBER, d.row("1".repeat(31))), TypeBook.INTEGER, MOST);
    d.is("the greatest of 64", d.apply(Desk.NUMBER, d.row("0".repeat(33) + "H".repeat(31))), TypeBook.INTEGER, MOST);
    d.is("0 of 64", d.apply(Desk.NUMBER, d.row("0".repeat(64))), TypeBook.INTEGER, 0);
    for (int length : new int[] {32, 33, 63, 64}) {
      d.fresh();
      d.fault("the first beyond, of " + length, d.apply(Desk.NUMBER,
          d.row("0".repeat(length - 32) + "1" + "0".repeat(31))), 9);
      d.fault("its leftmost alone, of " + length, d.apply(Desk.NUMBER, d.row("1" + "0".repeat(length - 1))), 9);
      d.fault("all, of " + length, d.apply(Desk.NUMBER, d.row("1".repeat(length))), 9);
    }
    for (char sign : NOT_CLEAR.toCharArray()) {
      refusals.fault("not CLEAR: " + sign, 9, () -> d.apply(Desk.NUMBER, d.row("0" + sign)),
          node -> d.book.check(node, TypeBook.NONE));
      d.fresh();
      d.fault("of one: " + sign, d.apply(Desk.NUMBER, d.row("" + sign)), 9);
      d.fault("at the left: " + sign, d.apply(Desk.NUMBER, d.row(sign + "01")), 9);
      d.fault("far to the left: " + sign, d.apply(Desk.NUMBER, d.row(sign + "0".repeat(63))), 9);
    }
  }

  private static String bits(BigInteger number, int length) {
    String bits = number.mod(BigInteger.ONE.shiftLeft(length)).toString(2);
    return "0".repeat(length - bits.length()) + bits;
  }

  private static void sums(String a, String b) {
    int length = a.length();
    BigInteger x = new BigInteger(a, 2);
    BigInteger y = new BigInteger(b, 2);
    d.fresh();
    d.isRow(a + " + " + b, d.binary(Desk.SUM, d.row(a), d.row(b)), bits(x.add(y), length));
    d.fresh();
    d.isRow(a + " - " + b, d.binary(Desk.DIFFERENCE, d.row(a), d.row(b)), bits(x.subtract(y), length));
  }

  /** "Sums and differences of rows: put into their length without what goes beyond" */
  private static void sumsWithoutWhatGoesBeyond() {
    for (int length : new int[] {1, 2, 31, 32, 33, 63, 64}) {
      String none = "0".repeat(length);
      String all = "1".repeat(length);
      String one = "0".repeat(length - 1) + "1";
      String high = "1" + "0".repeat(length - 1);
      sums(all, one);
      sums(all, all);
      sums(none, one);
      sums(none, all);
      sums(none, none);
      sums(high, high);
      sums(high, one);
      sums(one, high);
    }
    d.fresh();
    d.isRow("Hs and Ls count, the answer has none", d.binary(Desk.SUM, d.row("LH"), d.row("LH")), "10");
    d.isRow("of nothing too", d.binary(Desk.DIFFERENCE, d.row("LL"), d.row("LL")), "00");
  }

  private static void mixed(String row, int number) {
    int length = row.length();
    BigInteger x = new BigInteger(row, 2);
    BigInteger y = BigInteger.valueOf(number);
    d.fresh();
    d.isRow(row + " + " + number, d.binary(Desk.SUM, d.row(row), d.number(number)), bits(x.add(y), length));
    d.isRow(number + " + " + row, d.binary(Desk.SUM, d.number(number), d.row(row)), bits(x.add(y), length));
    d.fresh();
    d.isRow(row + " - " + number, d.binary(Desk.DIFFERENCE, d.row(row), d.number(number)), bits(x.subtract(y), length));
    d.isRow(number + " - " + row, d.binary(Desk.DIFFERENCE, d.number(number), d.row(row)), bits(y.subtract(x), length));
  }

  /** "an INTEGER counting by its lowest bits (below 0 with 2^64 more)" */
  private static void integersByTheirLowestBits() {
    for (int number : new int[] {0, 1, -1, 5, -5, MOST, -MOST}) {
      mixed("0", number);
      mixed("1", number);
      mixed("0110", number);
      mixed("1".repeat(31), number);
      mixed("1" + "0".repeat(31), number);
      mixed("0".repeat(32) + "1", number);
      mixed("0".repeat(64), number);
      mixed("1".repeat(64), number);
    }
  }

  /** "all X, if a row is not CLEAR" */
  private static void sumsThatAreNotClear() {
    for (char sign : NOT_CLEAR.toCharArray()) {
      for (int operator = Desk.SUM; operator <= Desk.DIFFERENCE; operator++) {
        d.fresh();
        d.isRow("of one", d.binary(operator, d.row("" + sign), d.row("0")), "X");
        d.isRow("left", d.binary(operator, d.row(sign + "00"), d.row("000")), "XXX");
        d.isRow("right", d.binary(operator, d.row("000"), d.row("00" + sign)), "XXX");
        d.isRow("both", d.binary(operator, d.row("0" + sign), d.row("0" + sign)), "XX");
        d.isRow("and an INTEGER", d.binary(operator, d.row(sign + "0"), d.number(0)), "XX");
        d.isRow("an INTEGER and it", d.binary(operator, d.number(0), d.row("0" + sign)), "XX");
        d.isRow("of 64", d.binary(operator, d.row(sign + "0".repeat(63)), d.number(1)), "X".repeat(64));
      }
    }
  }

  private static void rows(String a, String b, int order) {
    boolean[] due = {order < 0, order <= 0, order > 0, order >= 0};
    for (int operator = Desk.LESS; operator <= Desk.NOT_LESS; operator++) {
      d.fresh();
      d.is(a + " operator " + operator + " " + b, d.binary(operator, d.row(a), d.row(b)), TypeBook.TRUTH,
          due[operator - Desk.LESS] ? 1 : 0);
    }
  }

  /** "less and others of rows: by their numbers": the leftmost of 64 is no sign, and Hs and Ls count. */
  private static void comparedByNumbers() {
    String none = "0".repeat(63);
    String all = "1".repeat(63);
    rows("1" + none, "0" + all, 1);
    rows("0" + all, "1" + none, -1);
    rows("1" + all, "0" + none, 1);
    rows("1" + all, "1" + all, 0);
    rows("1" + none, none + "0", 1);
    rows(none + "1", none + "0", 1);
    rows("1" + all, all + "0", 1);
    rows("1", "0", 1);
    rows("L", "0", 0);
    rows("H", "1", 0);
    rows("LH", "10", -1);
  }

  /** "and false, if one is not CLEAR" */
  private static void comparedThatAreNotClear() {
    for (char sign : NOT_CLEAR.toCharArray()) {
      for (int operator = Desk.LESS; operator <= Desk.NOT_LESS; operator++) {
        d.fresh();
        d.is("a", d.binary(operator, d.row("1" + sign), d.row("00")), TypeBook.TRUTH, 0);
        d.is("b", d.binary(operator, d.row("00"), d.row(sign + "1")), TypeBook.TRUTH, 0);
        d.is("both", d.binary(operator, d.row("0" + sign), d.row("0" + sign)), TypeBook.TRUTH, 0);
        d.is("of one", d.binary(operator, d.row("" + sign), d.row("1")), TypeBook.TRUTH, 0);
        d.is("of 64", d.binary(operator, d.row(sign + "0".repeat(63)), d.row("0".repeat(64))), TypeBook.TRUTH, 0);
      }
    }
  }

  /** "The same: values alike, rows element by element": not by numbers, and of what is not CLEAR too. */
  private static void alike() {
    String row = "UX01ZWLH-";
    for (int i = 0; i < row.length(); i++) {
      d.fresh();
      String other = row.substring(0, i) + (row.charAt(i) == 'U' ? 'X' : 'U') + row.substring(i + 1);
      d.is("the same row", d.binary(Desk.SAME, d.row(row), d.row(row)), TypeBook.TRUTH, 1);
      d.is("not, of the same row", d.binary(Desk.NOT_SAME, d.row(row), d.row(row)), TypeBook.TRUTH, 0);
      d.is("another element " + i, d.binary(Desk.SAME, d.row(row), d.row(other)), TypeBook.TRUTH, 0);
      d.is("not, of another element " + i, d.binary(Desk.NOT_SAME, d.row(row), d.row(other)), TypeBook.TRUTH, 1);
    }
    d.fresh();
    d.is("numbers alike", d.binary(Desk.SAME, d.row("0H"), d.row("L1")), TypeBook.TRUTH, 0);
    for (int a = 0; a <= 8; a++) {
      d.fresh();
      for (int b = 0; b <= 8; b++) {
        d.is("signs " + a + " " + b, d.binary(Desk.SAME, d.node(3, a), d.node(3, b)), TypeBook.TRUTH, a == b ? 1 : 0);
        d.is("not, signs " + a + " " + b, d.binary(Desk.NOT_SAME, d.node(3, a), d.node(3, b)), TypeBook.TRUTH,
            a == b ? 0 : 1);
      }
    }
    d.fresh();
    String wide = "01".repeat(32);
    d.is("64, but for the first", d.binary(Desk.SAME, d.row(wide), d.row("1" + wide.substring(1))), TypeBook.TRUTH, 0);
    d.is("64, but for the last", d.binary(Desk.SAME, d.row(wide), d.row(wide.substring(0, 63) + "0")), TypeBook.TRUTH,
        0);
  }

  private static void integers(int a, int b) {
    d.fresh();
    int order = Integer.compare(a, b);
    boolean[] due = {order == 0, order != 0, order < 0, order <= 0, order > 0, order >= 0};
    for (int operator = Desk.SAME; operator <= Desk.NOT_LESS; operator++) {
      d.is(a + " operator " + operator + " " + b, d.binary(operator, d.number(a), d.number(b)), TypeBook.TRUTH,
          due[operator - Desk.SAME] ? 1 : 0);
    }
  }

  private static void comparedAtTheEnds() {
    int[] ends = {-MOST, -1, 0, 1, MOST};
    for (int a : ends) {
      for (int b : ends) {
        integers(a, b);
      }
    }
  }

  private static String shiftedLeft(String row, long by) {
    StringBuilder answer = new StringBuilder();
    for (int i = 0; i < row.length(); i++) {
      long from = i + by;
      answer.append(from >= 0 && from < row.length() ? row.charAt((int) from) : '0');
    }
    return answer.toString();
  }

  /** "Shifted: elements that come in are ZERO, by less than 0 the other way"; by its length and more none is left. */
  private static void shifted() {
    for (String row : new String[] {"H", "U-", "XZ1WH", "1".repeat(31) + "UX", "UX01ZWLH".repeat(8)}) {
      int length = row.length();
      for (int by : new int[] {0, 1, length - 1, length, length + 1, 2 * length, 63, 64, 65, 256, MOST}) {
        for (int sign = -1; sign <= 1; sign += 2) {
          int steps = sign * by;
          d.fresh();
          d.isRow(row + " to the left by " + steps, d.binary(Desk.LEFT, d.row(row), d.number(steps)),
              shiftedLeft(row, steps));
          d.isRow(row + " to the right by " + steps, d.binary(Desk.RIGHT, d.row(row), d.number(steps)),
              shiftedLeft(row, -(long) steps));
        }
      }
    }
  }

  /** "bits: the lowest n bits, an INTEGER below 0 counting 2^64 more" */
  private static void lowestBits() {
    for (int number : new int[] {0, 1, 2, -1, -2, MOST, -MOST, 1431655765, -1431655765}) {
      for (int n : new int[] {1, 2, 30, 31, 32, 33, 63, 64}) {
        d.fresh();
        d.isRow("bits " + number + " " + n, d.apply(Desk.BITS, d.number(number), d.number(n)),
            bits(BigInteger.valueOf(number), n));
      }
    }
  }
}
