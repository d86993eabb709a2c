/** Promise 2, at its edges: kinds, values that are names, numbers of children, and that a refused node is none. */
public final class Edges02Add {
  private static final Desk d = new Desk();
  private static final Refusals refusals = new Refusals(d);
  private static final int[] NAMED = {1, 10, 22, 23, 24, 25, 53};

  public static void main(String[] args) {
    kinds();
    namesOfKinds();
    valuesOfOtherKinds();
    numbersOfChildren();
    theLatestTrees();
    full();
    d.end();
  }

  /** "the kind is not 0 .. 99" */
  private static void kinds() {
    d.fresh();
    d.due("least", d.book.add(0, 0, 0), 0);
    d.due("greatest", d.book.add(99, 0, 0), 1);
    for (int kind : new int[] {-1, 100, Integer.MIN_VALUE, Integer.MAX_VALUE}) {
      refusals.argument("kind " + kind, () -> d.book.add(kind, 0, 0));
    }
  }

  /** "a name's value (of 1, 10, 22, 23, 24, 25, 53) is not 0 .. 9999" */
  private static void namesOfKinds() {
    d.fresh();
    int due = 0;
    for (int kind : NAMED) {
      d.due("kind " + kind + ", least name", d.book.add(kind, 0, 0), due++);
      d.due("kind " + kind + ", greatest name", d.book.add(kind, 9999, 0), due++);
    }
    for (int kind : NAMED) {
      for (int name : new int[] {-1, 10000, Integer.MIN_VALUE, Integer.MAX_VALUE}) {
        refusals.argument("kind " + kind + ", name " + name, () -> d.book.add(kind, name, 0));
      }
    }
  }

  private static boolean isNamed(int kind) {
    for (int named : NAMED) {
      if (kind == named) {
        return true;
      }
    }
    return false;
  }

  /** Of the other kinds no value is refused here. */
  private static void valuesOfOtherKinds() {
    d.fresh();
    int due = 0;
    for (int kind = 0; kind <= 99; kind++) {
      if (!isNamed(kind)) {
        for (int value : new int[] {-1, 10000, Integer.MIN_VALUE, Integer.MAX_VALUE}) {
          d.due("kind " + kind + ", value " + value, d.book.add(kind, value, 0), due++);
        }
      }
    }
  }

  /** "n is below 0, there are not so many trees" */
  private static void numbersOfChildren() {
    d.fresh();
    d.due("none of none", d.book.add(4, 0, 0), 0);
    d.book.add(3, 0, 0);
    d.book.add(3, 0, 0);
    d.argument("one more than there are", () -> d.book.add(4, 0, 4));
    d.due("as many as there are", d.book.add(4, 0, 3), 3);
    d.argument("they are in one now", () -> d.book.add(4, 0, 2));
    d.due("which is one tree", d.book.add(20, 0, 1), 4);
    d.due("none, though there is one", d.book.add(3, 0, 0), 5);
    d.argument("two trees are no three", () -> d.book.add(21, 0, 3));
    d.due("two trees", d.book.add(21, 0, 2), 6);
    for (int n : new int[] {-1, Refusals.TREES + 1, Integer.MIN_VALUE, Integer.MAX_VALUE}) {
      refusals.argument("n " + n, () -> d.book.add(4, 0, n));
    }
    d.fresh();
    for (int i = 0; i < 300; i++) {
      d.book.add(3, 0, 0);
    }
    d.argument("301 of 300", () -> d.book.add(4, 0, 301));
    d.due("300 of 300", d.book.add(4, 0, 300), 300);
    d.argument("but one is left", () -> d.book.add(4, 0, 2));
  }

  /** "whose children are the latest n trees" */
  private static void theLatestTrees() {
    d.fresh();
    int first = d.number(1);
    int second = d.number(20);
    int third = d.number(300);
    int latest = d.book.add(21, Desk.DIFFERENCE, 2);
    int all = d.book.add(21, Desk.DIFFERENCE, 2);
    d.is("of the latest two", latest, TypeBook.INTEGER, 20 - 300);
    d.isUnknown("the first is not in it", first);
    d.due("the second is", d.book.value(second, 0), 20);
    d.due("the third is", d.book.value(third, 0), 300);
    d.is("of the one that was left and that one", all, TypeBook.INTEGER, 1 - (20 - 300));
  }

  /**
   * "IllegalStateException when there are 4000 nodes". No 512 calls make so many: here later answers are asked for
   * too, which the document leaves free.
   */
  private static void full() {
    d.fresh();
    int wrong = d.name(Desk.NOTHING);
    for (int i = 1; i < 3999; i++) {
      d.book.add(3, 0, 0);
    }
    d.fault("a fault before", wrong, 1);
    d.due("the 4000th", d.book.add(2, 7, 0), 3999);
    d.state("the 4001st", () -> d.book.add(2, 7, 0));
    d.state("the 4001st, over all trees", () -> d.book.add(4, 0, 4000));
    d.argument("not so many trees", () -> d.book.add(4, 0, 4001));
    d.argument("no kind", () -> d.book.add(100, 0, 0));
    d.due("the place stays", d.book.place(), wrong);
    d.is("the last one is there", 3999, TypeBook.INTEGER, 7);
    d.index("and none behind it", () -> d.book.about(4000, 0));
    d.due("all of them", d.book.clear(), 4000);
    d.due("room again", d.book.add(2, 7, 0), 0);
  }
}
