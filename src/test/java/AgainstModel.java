import java.util.ArrayList;
import java.util.HashMap;
import java.util.List;
import java.util.Map;
import java.util.Random;

/** Runs of calls by fixed seeds, each call made of the book and of the model: answers and exceptions must be alike. */
public final class AgainstModel {
  private interface Call {
    int answer();
  }

  private static final int RUNS = 6000, MOST_CALLS = 512, NOT_ASKED = -100;
  private static final int MOST = 2147483647;
  private static final int[] NAMES = {0, 3, 5, 6, 7, 8, 10, 11, 17, 99};
  private static final Map<String, Integer> met = new HashMap<>();

  private final Random random;
  private final StringBuilder told = new StringBuilder();
  private final TypeBook book = new TypeBook();
  private final Model model = new Model();
  private final List<Integer> used = new ArrayList<>();
  private int types = 5;
  private int nodes = 0;
  private int calls = 0;
  private boolean wrong = false;

  private AgainstModel(int seed) {
    random = new Random(seed);
  }

  public static void main(String[] args) {
    int failures = 0;
    for (int seed = 1; seed <= RUNS && failures < 3; seed++) {
      AgainstModel run = new AgainstModel(seed);
      run.run();
      failures += run.wrong ? 1 : 0;
    }
    for (int fault = 1; fault <= 11; fault++) {
      if (met.getOrDefault("fault " + fault, 0) < 50) {
        failures++;
        System.out.println("fault " + fault + " was met too seldom");
      }
    }
    if (args.length > 0) {
      System.out.println(met);
    }
    if (failures > 0) {
      System.exit(1);
    }
  }

  private static String answer(Call call) {
    try {
      return "" + call.answer();
    } catch (RuntimeException e) {
      return "throws " + e.getClass().getSimpleName();
    }
  }

  private int ask(String what, Call ofBook, Call ofModel) {
    if (calls == MOST_CALLS) {
      return NOT_ASKED;
    }
    calls++;
    String got = answer(ofBook);
    String due = answer(ofModel);
    told.append(what).append(" = ").append(got).append('\n');
    if (!got.equals(due) && !wrong) {
      wrong = true;
      System.out.println(told + "due is " + due);
    }
    return due.startsWith("throws") ? NOT_ASKED : Integer.parseInt(due);
  }

  private void run() {
    while (calls < MOST_CALLS && !wrong) {
      step();
    }
  }

  private int any(int... of) {
    return of[random.nextInt(of.length)];
  }

  private boolean seldom(int times) {
    return random.nextInt(times) == 0;
  }

  private void step() {
    switch (random.nextInt(16)) {
      case 0 -> ask("enter", book::enter, model::enter);
      case 1 -> ask("leave", book::leave, model::leave);
      case 2 -> makeType();
      case 3 -> makeEnumeration();
      case 4 -> {
        int name = newName();
        int type = anyType();
        note(name, ask("subtype " + name + " " + type, () -> book.subtype(name, type), () -> model.subtype(name, type)));
      }
      case 5, 6, 7 -> declare();
      case 8 -> oddCall();
      default -> {
        int root = expression(any(0, 1, 2, 3, 4), 4);
        check(root, seldom(3) ? anyType() : -1);
        lookAround(root);
      }
    }
  }

  private int newName() {
    return seldom(40) ? any(-1, 10000) : seldom(5) ? any(NAMES) : 100 + random.nextInt(40);
  }

  private void note(int name, int answer) {
    if (answer >= 0) {
      used.add(name);
    }
    fault(answer);
  }

  private static void fault(int answer) {
    met.merge(answer < 0 && answer != NOT_ASKED ? "fault " + -answer : "right", 1, Integer::sum);
  }

  private int anyType() {
    return seldom(60) ? any(-2, types + 3) : random.nextInt(types);
  }

  private int add(int kind, int value, int n) {
    int node = ask("add " + kind + " " + value + " " + n, () -> book.add(kind, value, n), () -> model.add(kind, value, n));
    if (node >= 0) {
      nodes = node + 1;
    }
    return node;
  }

  private void makeType() {
    int kind = any(10, 11, 12, 13, 13, 12);
    int node;
    if (kind == 10) {
      node = add(10, anyName(), seldom(30) ? 1 : 0);
    } else {
      int base = seldom(12) ? MOST - any(0, 8, 62, 63, 64) : random.nextInt(20);
      int other = (int) Math.min(MOST, (long) base + (seldom(12) ? any(62, 63, 64, 65) : random.nextInt(9)));
      bound(kind == 13 ? other : base);
      bound(kind == 13 ? base : other);
      node = add(kind, seldom(20) ? 1 : kind == 11 ? 0 : 5, seldom(25) ? 1 : 2);
    }
    if (node >= 0) {
      int answer = ask("type " + node, () -> book.type(node), () -> model.type(node));
      types = Math.max(types, answer + 1);
      fault(answer);
      lookAround(node);
    }
  }

  private void bound(int usual) {
    if (seldom(6)) {
      expression(2, 2);
    } else {
      add(2, seldom(20) ? 70 : usual, 0);
      if (seldom(25)) {
        add(20, 1, 1);
      }
    }
  }

  private void makeEnumeration() {
    int places = seldom(30) ? any(0, 65) : 1 + random.nextInt(4);
    for (int i = 0; i < places; i++) {
      if (seldom(25)) {
        add(any(1, 2, 3), 3, seldom(2) ? 1 : 0);
      } else {
        add(1, 100 + random.nextInt(60), 0);
      }
    }
    int node = add(53, 100 + random.nextInt(60), places);
    if (node >= 0) {
      int answer = ask("enumeration " + node, () -> book.enumeration(node), () -> model.enumeration(node));
      if (answer >= 0) {
        types = Math.max(types, answer + 1);
        for (int i = node - places; i <= node; i++) {
          used.add(100 + random.nextInt(60));
        }
      }
      fault(answer);
      place();
    }
  }

  private void declare() {
    int what = seldom(40) ? any(-1, 3) : random.nextInt(3);
    int name = newName();
    int type = anyType();
    int kind = type >= 0 && type < types ? model.typeOf(type, 0) : 0;
    int node = what == 0 ? constantFor(type, kind) : any(-1, 0, 7);
    note(name, ask("declare " + what + " " + name + " " + type + " " + node,
        () -> book.declare(what, name, type, node), () -> model.declare(what, name, type, node)));
    place();
    if (what == 0 && node >= 0) {
      lookAround(node);
    }
  }

  private int constantFor(int type, int kind) {
    if (kind == 3 && !seldom(6)) {
      return row(model.typeOf(type, 3));
    }
    return seldom(40) ? any(-1, 5000) : expression(kind, 2);
  }

  private int anyName() {
    if (seldom(8) || used.isEmpty()) {
      return any(NAMES);
    }
    return used.get(random.nextInt(used.size()));
  }

  private int row(int length) {
    boolean clear = random.nextBoolean();
    for (int i = 0; i < length; i++) {
      add(3, seldom(80) ? any(-1, 9) : clear ? any(2, 3, 6, 7) : random.nextInt(9), 0);
    }
    return add(4, 0, length);
  }

  /** A tree that is of a class by and large. */
  private int expression(int kind, int depth) {
    if (seldom(25)) {
      kind = random.nextInt(5);
    }
    if (depth == 0 || seldom(4)) {
      return leaf(kind);
    }
    switch (kind) {
      case 0 -> {
        return seldom(2) ? operator(any(0, 1, 2, 3, 4, 5), 0, 0, depth) : apply(anyName(), depth);
      }
      case 1 -> {
        return truth(depth);
      }
      case 2 -> {
        return integer(depth);
      }
      case 3 -> {
        return rows(depth);
      }
      default -> {
        return add(1, anyName(), 0);
      }
    }
  }

  private int leaf(int kind) {
    if (seldom(2)) {
      return add(1, anyName(), seldom(60) ? 1 : 0);
    }
    return switch (kind) {
      case 0 -> add(3, random.nextInt(9), 0);
      case 1 -> add(1, any(6, 7), 0);
      case 2 -> add(2, any(0, 1, 2, 3, 5, 9, 30, 63, 64, 65536, MOST - 1, MOST), 0);
      case 3 -> row(any(1, 2, 4, 4, 4));
      default -> add(1, anyName(), 0);
    };
  }

  private int operator(int operator, int left, int right, int depth) {
    expression(left, depth - 1);
    expression(right, depth - 1);
    return add(21, seldom(60) ? any(-1, 21) : operator, seldom(60) ? any(1, 3) : 2);
  }

  private int apply(int name, int depth) {
    expression(2, Math.min(depth - 1, 1));
    return add(22, name, seldom(30) ? any(0, 2) : 1);
  }

  private int truth(int depth) {
    switch (random.nextInt(5)) {
      case 0 -> {
        return operator(any(0, 1, 2, 3, 4, 5), 1, 1, depth);
      }
      case 1 -> {
        int kind = random.nextInt(5);
        return operator(any(6, 7), kind, kind, depth);
      }
      case 2 -> {
        int kind = any(2, 3, 4);
        return operator(any(8, 9, 10, 11), kind, kind, depth);
      }
      case 3 -> {
        add(1, anyName(), 0);
        return add(22, any(8, 9), 1);
      }
      default -> {
        return attribute(any(15, 16, 17));
      }
    }
  }

  private int attribute(int which) {
    add(seldom(30) ? 2 : 1, seldom(30) ? any(14, 23) : which, seldom(40) ? 1 : 0);
    return add(25, anyName(), seldom(40) ? any(0, 2) : 1);
  }

  private int integer(int depth) {
    switch (random.nextInt(4)) {
      case 0 -> {
        return operator(any(12, 13, 15, 16, 17, 18), 2, 2, depth);
      }
      case 1 -> {
        expression(2, depth - 1);
        return add(20, seldom(60) ? any(-1, 4) : any(1, 1, 2, 3), 1);
      }
      case 2 -> {
        expression(3, depth - 1);
        return add(22, 10, 1);
      }
      default -> {
        return attribute(any(18, 19, 20, 21, 22));
      }
    }
  }

  private int rows(int depth) {
    switch (random.nextInt(7)) {
      case 0 -> {
        return operator(any(0, 1, 2, 3, 4, 5, 12, 13), 3, 3, depth);
      }
      case 1 -> {
        return operator(any(12, 13, 19, 20), 3, 2, depth);
      }
      case 2 -> {
        return operator(any(12, 13), 2, 3, depth);
      }
      case 3 -> {
        return operator(14, any(0, 3), any(0, 3), depth);
      }
      case 4 -> {
        expression(2, depth - 1);
        if (seldom(5)) {
          expression(2, 1);
        } else {
          add(2, any(0, 1, 3, 4, 40, 63, 64, 65), 0);
        }
        return add(22, 11, 2);
      }
      case 5 -> {
        int name = anyName();
        int low = random.nextInt(20);
        boolean down = random.nextBoolean();
        bound(down ? low + random.nextInt(4) : low);
        bound(down ? low : low + random.nextInt(4));
        return add(down ? 24 : 23, name, seldom(40) ? 1 : 2);
      }
      default -> {
        expression(3, depth - 1);
        return add(20, 0, 1);
      }
    }
  }

  private void place() {
    ask("place", book::place, model::place);
  }

  private void check(int node, int type) {
    fault(ask("check " + node + " " + type, () -> book.check(node, type), () -> model.check(node, type)));
    place();
  }

  private void lookAround(int root) {
    for (int node = root; node >= Math.max(0, root - 2); node--) {
      int at = node;
      for (int part = 0; part < 4; part++) {
        int what = part;
        ask("about " + at + " " + what, () -> book.about(at, what), () -> model.about(at, what));
      }
      int k = seldom(4) ? any(-1, 3, 64, 40) : random.nextInt(3);
      ask("value " + at + " " + k, () -> book.value(at, k), () -> model.value(at, k));
    }
  }

  private void oddCall() {
    int node = random.nextInt(nodes + 2) - 1;
    switch (random.nextInt(6)) {
      case 0 -> fault(ask("type " + node, () -> book.type(node), () -> model.type(node)));
      case 1 -> fault(ask("enumeration " + node, () -> book.enumeration(node), () -> model.enumeration(node)));
      case 2 -> check(node, anyType());
      case 3 -> add(random.nextInt(103) - 1, any(-1, 0, 5, 100, 10000), random.nextInt(4) - 1);
      case 4 -> {
        int type = anyType();
        int what = random.nextInt(7) - 1;
        ask("typeOf " + type + " " + what, () -> book.typeOf(type, what), () -> model.typeOf(type, what));
      }
      default -> {
        if (seldom(4)) {
          ask("clear", book::clear, model::clear);
          nodes = 0;
        }
      }
    }
    place();
  }
}
