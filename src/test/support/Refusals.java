import java.util.function.IntUnaryOperator;

/**
 * "A call that throws changes nothing; a fault neither." Two books are told the same; one of them gets the refused
 * call too, and then both must answer alike.
 */
final class Refusals {
  /** Makes what the refused call is about, in both books, and tells its node. */
  interface Make {
    int node();
  }

  interface CallOn {
    long answer(int node);
  }

  static final int CONSTANT = 100, SIGNAL = 101, VARIABLE = 102, COLORS = 110, RED = 111, SMALL = 113, ROW_SIGNAL = 104,
      FREE = 500;
  static final int DOWN_TYPE = 5, SMALL_TYPE = 6, COLORS_TYPE = 7, NO_TYPE = 8, NO_NODE = 19, TREES = 7;
  private static final int[] NAMES = {99, CONSTANT, SIGNAL, VARIABLE, ROW_SIGNAL, COLORS, RED, SMALL, FREE, FREE + 1};

  private final Desk d;
  private final Runnable scene;
  private final int[] names;
  int looked;

  /** In a scene that has something of everything, so that a change would be seen. */
  Refusals(Desk d) {
    this.d = d;
    this.scene = this::somethingOfEverything;
    this.names = NAMES;
  }

  Refusals(Desk d, Runnable scene, int... names) {
    this.d = d;
    this.scene = scene;
    this.names = names;
  }

  private void somethingOfEverything() {
    int down = d.rowDown(3, 0);
    d.range(2, 4);
    d.enumeration(COLORS, RED);
    d.constant(CONSTANT, down, d.row("1L0H"));
    d.book.declare(Desk.SIGNAL, SIGNAL, Desk.LOGIC, 0);
    d.book.declare(Desk.VARIABLE, VARIABLE, Desk.INTEGERS, 0);
    d.book.enter();
    d.book.subtype(SMALL, SMALL_TYPE);
    d.book.declare(Desk.SIGNAL, ROW_SIGNAL, down, 0);
    d.book.declare(Desk.SIGNAL, RED, Desk.TRUTH, 0);
    looked = d.binary(Desk.NOT_SAME, d.number(1), d.number(2));
    d.book.check(looked, TypeBook.NONE);
    d.unary(1, d.number(5));
    d.book.check(d.name(99), TypeBook.NONE);
  }

  private int begin(Make make) {
    d.fresh();
    scene.run();
    return make.node();
  }

  private void alike(String what, String due) {
    String got = Picture.of(d.book, names);
    d.due(what + " changes nothing:" + due + "\n but now:" + got + "\n", got.equals(due) ? 1 : 0, 1);
  }

  private String untouched(Make make) {
    begin(make);
    return Picture.of(d.book, names);
  }

  private void refused(String what, Class<?> due, Make make, CallOn call) {
    String picture = untouched(make);
    int node = begin(make);
    int place = d.book.place();
    d.dueThrow(what, () -> call.answer(node), due);
    d.due(what + " leaves the place", d.book.place(), place);
    alike(what, picture);
  }

  void index(String what, Make make, CallOn call) {
    refused(what, IndexOutOfBoundsException.class, make, call);
  }

  void argument(String what, Make make, CallOn call) {
    refused(what, IllegalArgumentException.class, make, call);
  }

  void state(String what, Make make, CallOn call) {
    refused(what, IllegalStateException.class, make, call);
  }

  void index(String what, Desk.Call call) {
    index(what, () -> looked, node -> call.answer());
  }

  void argument(String what, Desk.Call call) {
    argument(what, () -> looked, node -> call.answer());
  }

  void state(String what, Desk.Call call) {
    state(what, () -> looked, node -> call.answer());
  }

  /** A fault at the node itself. */
  void fault(String what, int fault, Make make, CallOn call) {
    fault(what, fault, node -> node, make, call);
  }

  void fault(String what, int fault, IntUnaryOperator at, Make make, CallOn call) {
    String picture = untouched(make);
    int node = begin(make);
    d.due(what, call.answer(node), -fault);
    d.due(what + ": place", d.book.place(), at.applyAsInt(node));
    alike(what, picture);
  }
}
