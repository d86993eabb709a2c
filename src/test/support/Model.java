import java.math.BigInteger;
import java.util.ArrayList;
import java.util.HashMap;
import java.util.List;
import java.util.Map;
import java.util.TreeSet;

/**
 * The document told once more, as plainly as can be: nodes by recursion, all faults of a node as a set, numbers
 * without bounds. Slow and wasteful; it stands here to be compared with.
 */
final class Model {
  static final int NONE = -1;
  private static final int[] ORDER = {11, 1, 2, 3, 4, 5, 6, 8, 9, 10};
  private static final BigInteger MOST = BigInteger.valueOf(2147483647);

  private record Node(int id, int kind, int value, List<Node> kids) {
  }

  private record Type(int kind, int left, int right, int count, boolean down) {
  }

  /** An expression's class with what tells it apart, constancy, meaning; value: a number, or signs from the left. */
  private static final class Info {
    int kind = NONE;
    int extent = 0;
    boolean constant = false;
    int means = NONE;
    BigInteger number = null;
    String signs = null;
  }

  private record Thing(int what, int type, Info value) {
  }

  private record Meaning(String sort, int number, int place) {
  }

  private static final class Fault extends RuntimeException {
    private static final long serialVersionUID = 1;
    final int code;
    final int node;

    Fault(int code, int node) {
      super(null, null, false, false);
      this.code = code;
      this.node = node;
    }
  }

  private List<Node> nodes = new ArrayList<>();
  private List<Node> trees = new ArrayList<>();
  private final List<Type> types = new ArrayList<>();
  private final List<Thing> things = new ArrayList<>();
  private final List<Map<Integer, Meaning>> scopes = new ArrayList<>();
  private Map<Integer, Info> known = new HashMap<>();
  private Map<Integer, Info> seen = new HashMap<>();
  private int place = NONE;

  Model() {
    types.add(new Type(0, 0, 0, 0, false));
    types.add(new Type(1, 0, 0, 0, false));
    types.add(new Type(2, -2147483647, 2147483647, 0, false));
    types.add(new Type(2, 0, 2147483647, 0, false));
    types.add(new Type(2, 1, 2147483647, 0, false));
    Map<Integer, Meaning> first = new HashMap<>();
    int[] numbers = {2, 3, 4, 1, 0};
    for (int name = 0; name < 5; name++) {
      first.put(name, new Meaning("type", numbers[name], 0));
    }
    first.put(5, new Meaning("rows", 0, 0));
    first.put(6, new Meaning("truth", 1, 0));
    first.put(7, new Meaning("truth", 0, 0));
    for (int name = 8; name < 12; name++) {
      first.put(name, new Meaning("function", name, 0));
    }
    scopes.add(first);
    scopes.add(new HashMap<>());
  }

  private static void index(boolean right) {
    if (!right) {
      throw new IndexOutOfBoundsException();
    }
  }

  private static void argument(boolean right) {
    if (!right) {
      throw new IllegalArgumentException();
    }
  }

  private static void state(boolean right) {
    if (!right) {
      throw new IllegalStateException();
    }
  }

  private Node at(int node) {
    index(node >= 0 && node < nodes.size());
    return nodes.get(node);
  }

  private Type typeAt(int type) {
    index(type >= 0 && type < types.size());
    return types.get(type);
  }

  private static boolean isName(int name) {
    return name >= 0 && name < 10000;
  }

  int add(int kind, int value, int n) {
    argument(kind >= 0 && kind < 100 && n >= 0 && n <= trees.size());
    argument(!List.of(1, 10, 22, 23, 24, 25, 53).contains(kind) || isName(value));
    state(nodes.size() < 4000);
    List<Node> latest = trees.subList(trees.size() - n, trees.size());
    Node node = new Node(nodes.size(), kind, value, new ArrayList<>(latest));
    latest.clear();
    trees.add(node);
    nodes.add(node);
    return node.id;
  }

  int clear() {
    int gone = nodes.size();
    nodes = new ArrayList<>();
    trees = new ArrayList<>();
    known = new HashMap<>();
    return gone;
  }

  int enter() {
    state(scopes.size() - 1 < 32);
    scopes.add(new HashMap<>());
    return scopes.size() - 1;
  }

  int leave() {
    state(scopes.size() - 1 > 1);
    scopes.remove(scopes.size() - 1);
    return scopes.size() - 1;
  }

  private Map<Integer, Meaning> innermost() {
    return scopes.get(scopes.size() - 1);
  }

  private Meaning meaning(int name) {
    for (int i = scopes.size() - 1; i >= 0; i--) {
      if (scopes.get(i).containsKey(name)) {
        return scopes.get(i).get(name);
      }
    }
    return null;
  }

  private void needNames(int more) {
    int names = more;
    for (int i = 1; i < scopes.size(); i++) {
      names += scopes.get(i).size();
    }
    state(names <= 3000);
  }

  private int refuse(Fault fault) {
    place = fault.node;
    return -fault.code;
  }

  private void accept() {
    known.putAll(seen);
    place = NONE;
  }

  int type(int id) {
    Node node = at(id);
    seen = new HashMap<>();
    try {
      if (node.kind != 25) {
        node.kids.forEach(this::look);
      }
      throwFirst(typeFaults(node), node);
    } catch (Fault fault) {
      return refuse(fault);
    }
    if (node.kind == 10) {
      accept();
      return meaning(node.value).number;
    }
    state(types.size() < 1000);
    accept();
    int left = number(node, 0);
    int right = number(node, 1);
    boolean down = node.kind == 13;
    types.add(node.kind == 11 ? new Type(2, left, right, 0, false)
        : new Type(3, left, right, Math.abs(right - left) + 1, down));
    return types.size() - 1;
  }

  private int number(Node node, int child) {
    return seen.get(node.kids.get(child).id).number.intValueExact();
  }

  private TreeSet<Integer> typeFaults(Node node) {
    TreeSet<Integer> faults = new TreeSet<>();
    if (node.kind < 10 || node.kind > 13 || node.kids.size() != (node.kind == 10 ? 0 : 2)) {
      faults.add(11);
      return faults;
    }
    if (node.kind == 10) {
      Meaning meaning = meaning(node.value);
      if (meaning == null) {
        faults.add(1);
      } else if (!meaning.sort.equals("type")) {
        faults.add(2);
      }
      return faults;
    }
    if (node.value != (node.kind == 11 ? 0 : 5)) {
      faults.add(2);
    }
    Info left = seen.get(node.kids.get(0).id);
    Info right = seen.get(node.kids.get(1).id);
    if (left.kind != 2 || right.kind != 2) {
      faults.add(3);
    } else if (!left.constant || !right.constant) {
      faults.add(5);
    } else {
      boundFaults(node.kind, left.number.longValue(), right.number.longValue(), faults);
    }
    return faults;
  }

  private static void boundFaults(int kind, long left, long right, TreeSet<Integer> faults) {
    if (kind == 11) {
      if (left > right) {
        faults.add(8);
      }
      return;
    }
    long count = 1 + (kind == 12 ? right - left : left - right);
    if (count > 64) {
      faults.add(4);
    }
    if (left < 0 || right < 0 || count < 1) {
      faults.add(6);
    }
  }

  int enumeration(int id) {
    Node node = at(id);
    try {
      lookAtEnum(node);
    } catch (Fault fault) {
      return refuse(fault);
    }
    state(types.size() < 1000);
    needNames(node.kids.size() + 1);
    int type = types.size();
    types.add(new Type(4, 0, node.kids.size() - 1, node.kids.size(), false));
    innermost().put(node.value, new Meaning("type", type, 0));
    for (int i = 0; i < node.kids.size(); i++) {
      innermost().put(node.kids.get(i).value, new Meaning("place", type, i));
    }
    place = NONE;
    return type;
  }

  private void lookAtEnum(Node node) {
    if (node.kind != 53) {
      throw new Fault(11, node.id);
    }
    for (Node kid : node.kids) {
      if (kid.kind != 1 || !kid.kids.isEmpty()) {
        throw new Fault(11, kid.id);
      }
    }
    if (node.kids.isEmpty() || node.kids.size() > 64) {
      throw new Fault(11, node.id);
    }
    if (innermost().containsKey(node.value)) {
      throw new Fault(7, node.id);
    }
    TreeSet<Integer> before = new TreeSet<>(innermost().keySet());
    before.add(node.value);
    for (Node kid : node.kids) {
      if (!before.add(kid.value)) {
        throw new Fault(7, kid.id);
      }
    }
  }

  int subtype(int name, int type) {
    typeAt(type);
    argument(isName(name));
    if (innermost().containsKey(name)) {
      return refuse(new Fault(7, NONE));
    }
    needNames(1);
    innermost().put(name, new Meaning("type", type, 0));
    place = NONE;
    return 0;
  }

  int declare(int what, int name, int type, int id) {
    typeAt(type);
    if (what == 0) {
      at(id);
    }
    argument(what >= 0 && what <= 2 && isName(name));
    seen = new HashMap<>();
    try {
      if (what == 0) {
        lookFor(at(id), type, true);
      }
      if (innermost().containsKey(name)) {
        throw new Fault(7, NONE);
      }
    } catch (Fault fault) {
      return refuse(fault);
    }
    state(things.size() < 2000);
    needNames(1);
    accept();
    things.add(new Thing(what, type, what == 0 ? seen.get(id) : null));
    innermost().put(name, new Meaning("object", things.size() - 1, 0));
    return things.size() - 1;
  }

  int check(int id, int type) {
    Node node = at(id);
    if (type != NONE) {
      typeAt(type);
    }
    seen = new HashMap<>();
    try {
      lookFor(node, type, false);
    } catch (Fault fault) {
      return refuse(fault);
    }
    accept();
    return 0;
  }

  int place() {
    return place;
  }

  int typeOf(int type, int what) {
    Type t = typeAt(type);
    index(what >= 0 && what <= 4);
    return new int[] {t.kind, t.left, t.right, t.count, t.down ? 1 : 0}[what];
  }

  int about(int id, int what) {
    at(id);
    index(what >= 0 && what <= 3);
    Info info = known.get(id);
    return info == null ? NONE : new int[] {info.kind, info.extent, info.constant ? 1 : 0, info.means}[what];
  }

  int value(int id, int k) {
    at(id);
    Info info = known.get(id);
    state(info != null && info.constant);
    if (info.kind != 3) {
      return info.number.intValueExact();
    }
    index(k >= 0 && k < info.signs.length());
    return info.signs.charAt(info.signs.length() - 1 - k) - '0';
  }

  private static void throwFirst(TreeSet<Integer> faults, Node node) {
    for (int code : ORDER) {
      if (faults.contains(code)) {
        throw new Fault(code, node.id);
      }
    }
  }

  private void lookFor(Node node, int type, boolean constant) {
    TreeSet<Integer> faults = new TreeSet<>();
    Info info = lookInto(node, faults);
    if (info.kind != NONE) {
      if (constant && !info.constant) {
        faults.add(5);
      }
      if (type != NONE) {
        misfits(info, type, faults);
      }
    }
    throwFirst(faults, node);
  }

  private void misfits(Info info, int number, TreeSet<Integer> faults) {
    Type type = types.get(number);
    if (info.kind != type.kind || info.kind == 4 && info.extent != number) {
      faults.add(3);
    } else if (info.kind == 3 && info.extent != 0 && info.extent != type.count) {
      faults.add(4);
    } else if (info.kind == 2 && info.number != null
        && (info.number.intValueExact() < type.left || info.number.intValueExact() > type.right)) {
      faults.add(8);
    }
  }

  private Info look(Node node) {
    TreeSet<Integer> faults = new TreeSet<>();
    Info info = lookInto(node, faults);
    throwFirst(faults, node);
    return info;
  }

  private Info lookInto(Node node, TreeSet<Integer> faults) {
    List<Info> kids = new ArrayList<>();
    if (node.kind != 25) {
      for (Node kid : node.kids) {
        kids.add(look(kid));
      }
    }
    Info info = new Info();
    seen.put(node.id, info);
    switch (node.kind) {
      case 1 -> name(node, info, faults);
      case 2 -> leaf(node, info, 2, 2147483647, faults);
      case 3 -> leaf(node, info, 0, 8, faults);
      case 4 -> signs(node, info, faults);
      case 20 -> unary(node, kids, info, faults);
      case 21 -> binary(node, kids, info, faults);
      case 22 -> apply(node, kids, info, faults);
      case 23, 24 -> slice(node, kids, info, faults);
      case 25 -> attribute(node, info, faults);
      default -> faults.add(11);
    }
    return info;
  }

  private static void leaf(Node node, Info info, int kind, int most, TreeSet<Integer> faults) {
    if (!node.kids.isEmpty() || node.value < 0 || node.value > most) {
      faults.add(11);
    }
    info.kind = kind;
    info.constant = true;
    info.number = BigInteger.valueOf(node.value);
  }

  private static void signs(Node node, Info info, TreeSet<Integer> faults) {
    StringBuilder signs = new StringBuilder();
    for (Node kid : node.kids) {
      if (kid.kind != 3) {
        faults.add(11);
      }
      signs.append((char) ('0' + kid.value));
    }
    if (node.kids.isEmpty() || node.kids.size() > 64) {
      faults.add(11);
    }
    setRow(info, signs.toString());
    info.constant = true;
  }

  private static void setRow(Info info, String signs) {
    info.kind = 3;
    info.extent = signs.length();
    info.signs = signs;
  }

  private void name(Node node, Info info, TreeSet<Integer> faults) {
    if (!node.kids.isEmpty()) {
      faults.add(11);
    }
    Meaning meaning = meaning(node.value);
    if (meaning == null) {
      faults.add(1);
      return;
    }
    switch (meaning.sort) {
      case "object" -> setObject(info, meaning.number);
      case "place" -> setPlace(info, 4, meaning.number, meaning.place);
      case "truth" -> setPlace(info, 1, 0, meaning.number);
      default -> faults.add(2);
    }
  }

  private static void setPlace(Info info, int kind, int extent, int number) {
    info.kind = kind;
    info.extent = extent;
    info.constant = true;
    info.number = BigInteger.valueOf(number);
    info.means = 2000;
  }

  private void setObject(Info info, int number) {
    Thing thing = things.get(number);
    setClass(info, thing.type);
    info.means = number;
    info.constant = thing.what == 0;
    if (info.constant) {
      info.number = thing.value.number;
      info.signs = thing.value.signs;
    }
  }

  private void setClass(Info info, int type) {
    info.kind = types.get(type).kind;
    info.extent = info.kind == 3 ? types.get(type).count : info.kind == 4 ? type : 0;
  }

  private static boolean clear(String signs) {
    return signs.matches("[2367]*");
  }

  private static BigInteger number(String signs) {
    return new BigInteger(signs.replaceAll("[26]", "0").replaceAll("[37]", "1"), 2);
  }

  private static String bits(BigInteger number, int length) {
    StringBuilder signs = new StringBuilder();
    BigInteger rest = number.mod(BigInteger.ONE.shiftLeft(64));
    for (int i = length - 1; i >= 0; i--) {
      signs.append(rest.testBit(i) ? '3' : '2');
    }
    return signs.toString();
  }

  private static char not(char sign) {
    return switch (sign) {
      case '0' -> '0';
      case '2', '6' -> '3';
      case '3', '7' -> '2';
      default -> '1';
    };
  }

  private static char logic(int operator, char a, char b) {
    String both = "" + a + b;
    char plain = switch (operator) {
      case 0, 2 -> both.matches(".*[26].*") ? '2' : both.contains("0") ? '0' : both.matches("[37]*") ? '3' : '1';
      case 1, 3 -> both.matches(".*[37].*") ? '3' : both.contains("0") ? '0' : both.matches("[26]*") ? '2' : '1';
      default -> both.contains("0") ? '0' : !clear(both) ? '1' : (a - b) % 2 != 0 ? '3' : '2';
    };
    return operator == 2 || operator == 3 || operator == 5 ? not(plain) : plain;
  }

  private static void unary(Node node, List<Info> kids, Info info, TreeSet<Integer> faults) {
    if (kids.size() != 1 || node.value < 0 || node.value > 3) {
      faults.add(11);
      return;
    }
    Info a = kids.get(0);
    if (node.value == 0 ? a.kind == 2 || a.kind == 4 : a.kind != 2) {
      faults.add(3);
      return;
    }
    info.kind = a.kind;
    info.extent = a.extent;
    info.constant = a.constant;
    if (!a.constant) {
      return;
    }
    switch (a.kind) {
      case 0 -> info.number = BigInteger.valueOf(not((char) ('0' + a.number.intValue())) - '0');
      case 1 -> info.number = BigInteger.ONE.subtract(a.number);
      case 2 -> info.number = node.value == 1 ? a.number.negate() : node.value == 2 ? a.number : a.number.abs();
      default -> {
        StringBuilder signs = new StringBuilder();
        for (char sign : a.signs.toCharArray()) {
          signs.append(not(sign));
        }
        info.signs = signs.toString();
      }
    }
  }

  private static void binary(Node node, List<Info> kids, Info info, TreeSet<Integer> faults) {
    int o = node.value;
    if (kids.size() != 2 || o < 0 || o > 20) {
      faults.add(11);
      return;
    }
    Info a = kids.get(0);
    Info b = kids.get(1);
    String classes = "LTIRE".charAt(a.kind) + "" + "LTIRE".charAt(b.kind);
    String right = o < 6 ? "TT LL RR" : o < 8 ? "TT LL II RR EE" : o < 12 ? "II RR EE" : o < 14 ? "II RR RI IR"
        : o == 14 ? "LL LR RL RR" : o < 19 ? "II" : "RI";
    if (!List.of(right.split(" ")).contains(classes) || classes.equals("EE") && a.extent != b.extent) {
      faults.add(3);
      return;
    }
    info.constant = a.constant && b.constant;
    info.kind = o >= 6 && o < 12 ? 1 : o == 14 || classes.contains("R") ? 3 : a.kind;
    if (info.kind == 3) {
      info.extent = o == 14 ? width(a) + width(b) : Math.max(a.kind == 3 ? a.extent : 0, b.kind == 3 ? b.extent : 0);
    }
    if (classes.equals("RR") && o != 14 && a.extent != b.extent || info.extent > 64) {
      faults.add(4);
    } else if (info.constant) {
      compute(o, a, b, info, faults);
    }
  }

  private static int width(Info info) {
    return info.kind == 3 ? info.extent : 1;
  }

  private static String signsOf(Info info) {
    return info.kind == 3 ? info.signs : "" + info.number;
  }

  private static void compute(int o, Info a, Info b, Info info, TreeSet<Integer> faults) {
    if (o < 6 && info.kind == 1) {
      char sign = logic(o, a.number.signum() == 1 ? '3' : '2', b.number.signum() == 1 ? '3' : '2');
      info.number = BigInteger.valueOf(sign == '3' ? 1 : 0);
    } else if (o < 6) {
      StringBuilder signs = new StringBuilder();
      for (int i = 0; i < signsOf(a).length(); i++) {
        signs.append(logic(o, signsOf(a).charAt(i), signsOf(b).charAt(i)));
      }
      info.signs = signs.toString();
      info.number = info.kind == 0 ? new BigInteger(info.signs) : null;
    } else if (o < 12) {
      info.number = compare(o, a, b) ? BigInteger.ONE : BigInteger.ZERO;
    } else if (info.kind == 2) {
      calculate(o, a.number, b.number, info, faults);
    } else if (o < 14) {
      boolean clear = (a.kind == 2 || clear(a.signs)) && (b.kind == 2 || clear(b.signs));
      BigInteger x = !clear ? null : a.kind == 2 ? a.number : number(a.signs);
      BigInteger y = !clear ? null : b.kind == 2 ? b.number : number(b.signs);
      info.signs = !clear ? "1".repeat(info.extent) : bits(o == 12 ? x.add(y) : x.subtract(y), info.extent);
    } else if (o == 14) {
      info.signs = signsOf(a) + signsOf(b);
    } else {
      int left = Math.max(-64, Math.min(64, b.number.intValue())) * (o == 19 ? 1 : -1);
      String padded = "2".repeat(64) + a.signs + "2".repeat(64);
      info.signs = padded.substring(64 + left, 64 + left + info.extent);
    }
  }

  private static boolean compare(int o, Info a, Info b) {
    if (o < 8) {
      boolean alike = a.kind == 3 ? a.signs.equals(b.signs) : a.number.equals(b.number);
      return alike == (o == 6);
    }
    if (a.kind == 3 && !clear(a.signs + b.signs)) {
      return false;
    }
    int order = a.kind == 3 ? number(a.signs).compareTo(number(b.signs)) : a.number.compareTo(b.number);
    return o == 8 ? order < 0 : o == 9 ? order <= 0 : o == 10 ? order > 0 : order >= 0;
  }

  private static void calculate(int o, BigInteger a, BigInteger b, Info info, TreeSet<Integer> faults) {
    if (o >= 16 && b.signum() == 0) {
      faults.add(10);
      return;
    }
    BigInteger result = switch (o) {
      case 12 -> a.add(b);
      case 13 -> a.subtract(b);
      case 15 -> a.multiply(b);
      case 16 -> a.divide(b);
      case 17 -> b.signum() > 0 ? a.mod(b) : a.negate().mod(b.negate()).negate();
      default -> a.remainder(b);
    };
    if (result.abs().compareTo(MOST) > 0) {
      faults.add(9);
    } else {
      info.number = result;
    }
  }

  /** The row object that a node's name means; without one, its fault is told. */
  private Meaning rowObject(Node node, TreeSet<Integer> faults) {
    Meaning meaning = meaning(node.value);
    if (meaning == null) {
      faults.add(1);
    } else if (!meaning.sort.equals("object") || types.get(things.get(meaning.number).type).kind != 3) {
      faults.add(2);
    } else {
      return meaning;
    }
    return null;
  }

  private void apply(Node node, List<Info> kids, Info info, TreeSet<Integer> faults) {
    Meaning meaning = meaning(node.value);
    if (meaning != null && meaning.sort.equals("function")) {
      info.means = 3000;
      function(node, meaning.number, kids, info, faults);
      return;
    }
    meaning = rowObject(node, faults);
    if (meaning == null) {
      return;
    }
    if (kids.size() != 1) {
      faults.add(11);
    } else if (kids.get(0).kind != 2) {
      faults.add(3);
    } else {
      Thing thing = things.get(meaning.number);
      info.kind = 0;
      info.means = meaning.number;
      info.constant = thing.what == 0 && kids.get(0).constant;
      if (kids.get(0).constant) {
        int i = fromLeft(types.get(thing.type), kids.get(0).number.intValue());
        if (i < 0) {
          faults.add(6);
        } else if (info.constant) {
          info.number = BigInteger.valueOf(thing.value.signs.charAt(i) - '0');
        }
      }
    }
  }

  /** Steps from the left bound, or below 0. */
  private static int fromLeft(Type type, int place) {
    int low = Math.min(type.left, type.right);
    int high = Math.max(type.left, type.right);
    return place < low || place > high ? -1 : Math.abs(place - type.left);
  }

  private void function(Node node, int function, List<Info> kids, Info info, TreeSet<Integer> faults) {
    if (kids.size() != (function == 11 ? 2 : 1)) {
      faults.add(11);
    } else if (function <= 9) {
      Info a = kids.get(0);
      info.kind = 1;
      if (node.kids.get(0).kind != 1) {
        faults.add(11);
      } else if (a.means < 0 || a.means >= 2000 || things.get(a.means).what != 1) {
        faults.add(2);
      } else if (a.kind != 0) {
        faults.add(3);
      }
    } else if (function == 10) {
      number(kids.get(0), info, faults);
    } else {
      bits(kids.get(0), kids.get(1), info, faults);
    }
  }

  private static void number(Info a, Info info, TreeSet<Integer> faults) {
    info.kind = 2;
    info.constant = a.constant;
    if (a.kind != 3) {
      faults.add(3);
    } else if (a.constant && (!clear(a.signs) || number(a.signs).compareTo(MOST) > 0)) {
      faults.add(9);
    } else if (a.constant) {
      info.number = number(a.signs);
    }
  }

  private static void bits(Info a, Info n, Info info, TreeSet<Integer> faults) {
    info.kind = 3;
    info.constant = a.constant && n.constant;
    if (a.kind != 2 || n.kind != 2 || !n.constant) {
      faults.add(3);
    } else if (n.number.intValue() < 1 || n.number.intValue() > 64) {
      faults.add(4);
    } else {
      info.extent = n.number.intValue();
      info.signs = a.constant ? bits(a.number, info.extent) : null;
    }
  }

  private void slice(Node node, List<Info> kids, Info info, TreeSet<Integer> faults) {
    if (kids.size() != 2) {
      faults.add(11);
    }
    Meaning meaning = rowObject(node, faults);
    if (meaning == null || kids.size() != 2) {
      return;
    }
    Thing thing = things.get(meaning.number);
    Type type = types.get(thing.type);
    Info a = kids.get(0);
    Info b = kids.get(1);
    info.kind = 3;
    info.means = meaning.number;
    info.constant = thing.what == 0 && a.constant && b.constant;
    if (a.kind != 2 || b.kind != 2) {
      faults.add(3);
    } else if (!a.constant || !b.constant) {
      faults.add(5);
    } else {
      int from = fromLeft(type, a.number.intValue());
      int to = fromLeft(type, b.number.intValue());
      if (type.down != (node.kind == 24) || from < 0 || to < from) {
        faults.add(6);
      } else {
        info.extent = to - from + 1;
        info.signs = info.constant ? thing.value.signs.substring(from, to + 1) : null;
      }
    }
  }

  private void attribute(Node node, Info info, TreeSet<Integer> faults) {
    Node kid = node.kids.size() == 1 ? node.kids.get(0) : null;
    if (kid == null || kid.kind != 1 || kid.value < 15 || kid.value > 22 || !kid.kids.isEmpty()) {
      faults.add(11);
      return;
    }
    Meaning meaning = meaning(node.value);
    if (meaning == null) {
      faults.add(1);
    } else if (!meaning.sort.equals("object")) {
      faults.add(2);
    } else {
      info.means = meaning.number;
      attributeOf(things.get(meaning.number), kid.value, info, faults);
    }
  }

  private void attributeOf(Thing thing, int which, Info info, TreeSet<Integer> faults) {
    Type type = types.get(thing.type);
    if (which <= 17) {
      if (thing.what != 1) {
        faults.add(2);
      }
      info.kind = 1;
      if (which == 17) {
        setClass(info, thing.type);
      }
      return;
    }
    if (type.kind != 3) {
      faults.add(3);
    }
    info.kind = 2;
    info.constant = true;
    int[] parts = {type.count, type.left, type.right, Math.max(type.left, type.right), Math.min(type.left, type.right)};
    info.number = BigInteger.valueOf(parts[which - 18]);
  }
}
