/**
 * All that can be asked of a book, as a text: books with the same text answer alike. It is told by calls that change
 * the book, for only these show how many trees, types, objects and scopes there are, and which names each scope has.
 */
final class Picture {
  private static final int MOST_TREES = 20, MOST_NUMBERS = 1000;

  private final TypeBook book;
  private final StringBuilder text = new StringBuilder();

  private Picture(TypeBook book) {
    this.book = book;
  }

  static String of(TypeBook book, int... names) {
    Picture picture = new Picture(book);
    picture.nodes();
    picture.types();
    picture.trees();
    picture.scopes(names);
    picture.numbers();
    return picture.text.toString();
  }

  /** Whether the call answered; its answer or its exception is put down. */
  private boolean ask(Desk.Call call) {
    try {
      text.append(call.answer()).append(' ');
      return true;
    } catch (RuntimeException e) {
      text.append(e.getClass().getSimpleName()).append(' ');
      return false;
    }
  }

  private void about(int node) {
    for (int what = 1; what < 4; what++) {
      int part = what;
      ask(() -> book.about(node, part));
    }
    boolean more = true;
    for (int k = 0; k < 5 && more; k++) {
      int element = k;
      more = ask(() -> book.value(node, element)) && book.about(node, 0) == TypeBook.ROW;
    }
  }

  private void nodes() {
    text.append("\n  nodes: ");
    boolean more = true;
    for (int i = 0; more && i < MOST_NUMBERS; i++) {
      int node = i;
      more = ask(() -> book.about(node, 0));
      if (more && book.about(node, 0) != TypeBook.NONE) {
        about(node);
      }
    }
  }

  private void types() {
    text.append("\n  types: ");
    boolean more = true;
    for (int i = 0; more && i < MOST_NUMBERS; i++) {
      int type = i;
      more = ask(() -> book.typeOf(type, 0));
      for (int what = 1; more && what < 5; what++) {
        int part = what;
        ask(() -> book.typeOf(type, part));
      }
    }
  }

  private void trees() {
    text.append("\n  trees: ");
    boolean more = true;
    for (int i = MOST_TREES; more && i >= 0; i--) {
      int n = i;
      more = !ask(() -> book.add(0, 0, n));
    }
  }

  private void scopes(int[] names) {
    boolean more = true;
    for (int i = 0; more && i < MOST_NUMBERS; i++) {
      text.append("\n  scope: ");
      for (int name : names) {
        ask(() -> book.check(book.add(1, name, 0), TypeBook.NONE));
        ask(() -> book.type(book.add(10, name, 0)));
        ask(() -> book.subtype(name, 0));
      }
      more = ask(book::leave);
    }
  }

  private void numbers() {
    text.append("\n  numbers: ");
    ask(book::enter);
    ask(() -> book.declare(Desk.SIGNAL, 9998, 0, 0));
    ask(() -> {
      book.add(2, 1, 0);
      book.add(2, 2, 0);
      return book.type(book.add(11, 0, 2));
    });
    ask(book::clear);
  }
}
