import java.util.Arrays;

/** Names with types in scopes, and expressions over them; ../shared/DOC.md says what each call promises. */
public final class TypeBook {
  public static final int NONE = -1;
  public static final int LOGIC = 0, TRUTH = 1, INTEGER = 2, ROW = 3, ENUMERATION = 4;

  private static final int NAME = 1, NUMBER = 2, SIGN = 3, SIGNS = 4;
  private static final int TYPE = 10, RANGE = 11, ROW_UP = 12, ROW_DOWN = 13;
  private static final int UNARY = 20, BINARY = 21, APPLY = 22, SLICE_UP = 23, SLICE_DOWN = 24, ATTRIBUTE = 25;
  private static final int ENUM = 53, LAST_KIND = 99;

  private static final int FINE = 0, UNKNOWN = 1, MISPLACED = 2, CLASSES = 3, LENGTHS = 4, NOT_CONSTANT = 5;
  private static final int BEYOND_BOUNDS = 6, TAKEN = 7, OUTSIDE = 8, TOO_LARGE = 9, BY_NOTHING = 10, MALFORMED = 11;

  private static final int MEANS_TYPE = 1, MEANS_OBJECT = 2, MEANS_PLACE = 3, MEANS_TRUTH = 4, MEANS_FUNCTION = 5,
      MEANS_ROWS = 6;

  private static final int CONSTANT = 0, SIGNAL = 1, VARIABLE = 2;
  private static final int RISING = 8, FALLING = 9, NUMBER_OF = 10, BITS = 11;
  private static final int EVENT = 15, LAST = 17, LENGTH = 18, LEFT = 19, RIGHT = 20, HIGH = 21, LOW = 22;
  private static final int INTEGERS_NAME = 0, ROWS_NAME = 5;

  private static final int NOT = 0, MINUS = 1, SIZE = 3;
  private static final int AND = 0, OR = 1, AND_TURNED = 2, OR_TURNED = 3, OTHER = 4, OTHER_TURNED = 5;
  private static final int SAME = 6, NOT_SAME = 7, LESS = 8, NOT_MORE = 9, MORE = 10, NOT_LESS = 11;
  private static final int SUM = 12, DIFFERENCE = 13, JOINED = 14, QUOTIENT = 16, MODULUS = 17,
      REMAINDER = 18, SHIFTED_LEFT = 19, SHIFTED_RIGHT = 20;

  private static final int U = 0, X = 1, ZERO = 2, ONE = 3, L = 6, H = 7, FREE = 8;

  private static final int GREATEST = 2147483647, LONGEST_ROW = 64, LAST_NAME = 9999;
  private static final int MOST_NODES = 4000, MOST_SCOPES = 32, MOST_TYPES = 1000, MOST_NAMES = 3000,
      MOST_OBJECTS = 2000, MOST_PLACES = 64;
  private static final int VALUE_NAME = 2000, FUNCTION_NAME = 3000;

  private final Trees trees = new Trees();
  private final Names names = new Names();
  private final Types types = new Types();
  private final Objects objects = new Objects();
  private final Looks known = new Looks();
  private final Looker looker = new Looker(trees, names, types, objects);
  private int faultNode = NONE;

  public TypeBook() {
  }

  public int add(int kind, int value, int n) throws IllegalArgumentException, IllegalStateException {
    if (kind < 0 || kind > LAST_KIND || n < 0 || n > trees.roots) {
      throw new IllegalArgumentException("no such kind, or not so many trees");
    }
    if (Trees.bearsName(kind) && !isName(value)) {
      throw new IllegalArgumentException("no such name");
    }
    if (trees.size >= MOST_NODES) {
      throw new IllegalStateException("no room for a node");
    }
    int node = trees.grow(kind, value, n);
    known.makeRoom(trees.size);
    known.forget(node);
    looker.makeRoom(trees.size);
    return node;
  }

  public int clear() {
    int gone = trees.size;
    trees.fell();
    return gone;
  }

  public int enter() throws IllegalStateException {
    if (names.scopes >= MOST_SCOPES) {
      throw new IllegalStateException("no room for a scope");
    }
    names.open();
    return names.scopes;
  }

  public int leave() throws IllegalStateException {
    if (names.scopes <= 1) {
      throw new IllegalStateException("the outermost scope stays");
    }
    names.close();
    return names.scopes;
  }

  public int type(int node) throws IndexOutOfBoundsException, IllegalStateException {
    if (!trees.has(node)) {
      throw new IndexOutOfBoundsException("no such node");
    }
    int fault = looker.look(node, node - 1);
    if (fault != FINE) {
      return refused(fault, looker.at);
    }
    fault = looker.typeFault(node);
    if (fault != FINE) {
      return refused(fault, node);
    }
    boolean isNew = trees.kindOf(node) != TYPE;
    if (isNew && types.size >= MOST_TYPES) {
      throw new IllegalStateException("no room for a type");
    }
    looker.tell(known, node, node - 1);
    faultNode = NONE;
    return isNew ? looker.newType(node) : looker.namedType(node);
  }

  public int enumeration(int node) throws IndexOutOfBoundsException, IllegalStateException {
    if (!trees.has(node)) {
      throw new IndexOutOfBoundsException("no such node");
    }
    int wrong = malformedEnumNode(node);
    if (wrong != NONE) {
      return refused(MALFORMED, wrong);
    }
    int taken = takenEnumNode(node);
    if (taken != NONE) {
      return refused(TAKEN, taken);
    }
    int places = trees.countOf(node);
    if (types.size >= MOST_TYPES || !names.haveRoom(places + 1)) {
      throw new IllegalStateException("no room for an enumeration");
    }
    int number = types.put(ENUMERATION, 0, places - 1, places);
    names.put(trees.valueOf(node), MEANS_TYPE, number, 0);
    for (int place = 0; place < places; place++) {
      names.put(trees.valueOf(node - places + place), MEANS_PLACE, number, place);
    }
    faultNode = NONE;
    return number;
  }

  public int subtype(int name, int type)
      throws IndexOutOfBoundsException, IllegalArgumentException, IllegalStateException {
    if (!types.has(type)) {
      throw new IndexOutOfBoundsException("no such type");
    }
    if (!isName(name)) {
      throw new IllegalArgumentException("no such name");
    }
    if (names.isTaken(name)) {
      return refused(TAKEN, NONE);
    }
    if (!names.haveRoom(1)) {
      throw new IllegalStateException("no room for a name");
    }
    names.put(name, MEANS_TYPE, type, 0);
    faultNode = NONE;
    return 0;
  }

  public int declare(int what, int name, int type, int node)
      throws IndexOutOfBoundsException, IllegalArgumentException, IllegalStateException {
    if (!types.has(type) || (what == CONSTANT && !trees.has(node))) {
      throw new IndexOutOfBoundsException("no such type or node");
    }
    if (what < CONSTANT || what > VARIABLE || !isName(name)) {
      throw new IllegalArgumentException("no such object or name");
    }
    int fault = what == CONSTANT ? looker.judge(looker.look(node, node), node, type, true) : FINE;
    if (fault != FINE) {
      return refused(fault, looker.at);
    }
    if (names.isTaken(name)) {
      return refused(TAKEN, NONE);
    }
    if (objects.size >= MOST_OBJECTS || !names.haveRoom(1)) {
      throw new IllegalStateException("no room for an object");
    }
    int object = objects.put(what, type);
    if (what == CONSTANT) {
      looker.tell(known, node, node);
      objects.keep(object, known, node);
    }
    names.put(name, MEANS_OBJECT, object, 0);
    faultNode = NONE;
    return object;
  }

  public int check(int node, int type) throws IndexOutOfBoundsException {
    if (!trees.has(node) || (type != NONE && !types.has(type))) {
      throw new IndexOutOfBoundsException("no such node or type");
    }
    int fault = looker.judge(looker.look(node, node), node, type, false);
    if (fault != FINE) {
      return refused(fault, looker.at);
    }
    looker.tell(known, node, node);
    faultNode = NONE;
    return 0;
  }

  public int place() {
    return faultNode;
  }

  public int typeOf(int type, int what) throws IndexOutOfBoundsException {
    if (!types.has(type) || what < 0 || what > 4) {
      throw new IndexOutOfBoundsException("no such type or part");
    }
    switch (what) {
      case 0:
        return types.classOf(type);
      case 1:
        return types.leftOf(type);
      case 2:
        return types.rightOf(type);
      case 3:
        return types.countOf(type);
      default:
        return types.goesDown(type) ? 1 : 0;
    }
  }

  public int about(int node, int what) throws IndexOutOfBoundsException {
    if (!trees.has(node) || what < 0 || what > 3) {
      throw new IndexOutOfBoundsException("no such node or part");
    }
    if (known.classOf(node) == NONE) {
      return NONE;
    }
    switch (what) {
      case 0:
        return known.classOf(node);
      case 1:
        return known.extentOf(node);
      case 2:
        return known.isFixed(node) ? 1 : 0;
      default:
        return known.meaningOf(node);
    }
  }

  public int value(int node, int k) throws IndexOutOfBoundsException, IllegalStateException {
    if (!trees.has(node)) {
      throw new IndexOutOfBoundsException("no such node");
    }
    if (known.classOf(node) == NONE || !known.isFixed(node)) {
      throw new IllegalStateException("not a constant that has been looked at");
    }
    if (known.classOf(node) != ROW) {
      return known.numberOf(node);
    }
    if (k < 0 || k >= known.extentOf(node)) {
      throw new IndexOutOfBoundsException("no such element");
    }
    return known.rows.get(node, k);
  }

  private int refused(int fault, int node) {
    faultNode = node;
    return -fault;
  }

  private static boolean isName(int name) {
    return name >= 0 && name <= LAST_NAME;
  }

  /** Goes from the right to the left, so that of what is wrong the first child stays, and the node counts last. */
  private int malformedEnumNode(int node) {
    if (trees.kindOf(node) != ENUM) {
      return node;
    }
    int places = trees.countOf(node);
    int wrong = places < 1 || places > MOST_PLACES ? node : NONE;
    int child = node - 1;
    for (int i = 0; i < places; i++) {
      if (trees.kindOf(child) != NAME || trees.countOf(child) != 0) {
        wrong = child;
      }
      child = trees.firstOf(child) - 1;
    }
    return wrong;
  }

  /** Only for a node that is not malformed: then its NAMEs are leaves and stand right before it. */
  private int takenEnumNode(int node) {
    int own = trees.valueOf(node);
    if (names.isTaken(own)) {
      return node;
    }
    int first = trees.firstOf(node);
    for (int child = first; child < node; child++) {
      int name = trees.valueOf(child);
      if (name == own || names.isTaken(name) || isNameOfOneBefore(first, child)) {
        return child;
      }
    }
    return NONE;
  }

  private boolean isNameOfOneBefore(int first, int child) {
    for (int before = first; before < child; before++) {
      if (trees.valueOf(before) == trees.valueOf(child)) {
        return true;
      }
    }
    return false;
  }

  private static int[] withRoom(int[] row, int size) {
    return size <= row.length ? row : Arrays.copyOf(row, Math.max(size, 2 * row.length));
  }

  /**
   * Nodes. As each one takes the latest trees, a tree's nodes are numbered without a gap, children before
   * their parent and from the left: the order in which faults count, so no walk needs recursion.
   */
  private static final class Trees {
    private int[] kinds = new int[64];
    private int[] values = new int[64];
    private int[] counts = new int[64];
    private int[] firsts = new int[64];
    private int size = 0;
    private int roots = 0;

    static boolean bearsName(int kind) {
      return kind == NAME || kind == TYPE || (kind >= APPLY && kind <= ATTRIBUTE) || kind == ENUM;
    }

    boolean has(int node) {
      return node >= 0 && node < size;
    }

    int kindOf(int node) {
      return has(node) ? kinds[node] : NONE;
    }

    int valueOf(int node) {
      return has(node) ? values[node] : NONE;
    }

    int countOf(int node) {
      return has(node) ? counts[node] : 0;
    }

    /** The lowest node of the tree under a node. */
    int firstOf(int node) {
      return has(node) ? firsts[node] : 0;
    }

    int leftOfTwo(int node) {
      return firstOf(node - 1) - 1;
    }

    int grow(int kind, int value, int n) {
      int node = size;
      kinds = withRoom(kinds, node + 1);
      values = withRoom(values, node + 1);
      counts = withRoom(counts, node + 1);
      firsts = withRoom(firsts, node + 1);
      int first = node;
      for (int i = 0; i < n; i++) {
        first = firstOf(first - 1);
      }
      kinds[node] = kind;
      values[node] = value;
      counts[node] = n;
      firsts[node] = first;
      size++;
      roots += 1 - n;
      return node;
    }

    void fell() {
      size = 0;
      roots = 0;
    }
  }

  /** What names mean, innermost last; chains by a name's lowest bits keep the search short. */
  private static final class Names {
    private static final int CHAINS = 256;
    private static final int[] FIRST_SORTS = {MEANS_TYPE, MEANS_TYPE, MEANS_TYPE, MEANS_TYPE, MEANS_TYPE, MEANS_ROWS,
        MEANS_TRUTH, MEANS_TRUTH, MEANS_FUNCTION, MEANS_FUNCTION, MEANS_FUNCTION, MEANS_FUNCTION};
    private static final int[] FIRST_NUMBERS = {2, 3, 4, 1, 0, 0, 1, 0, RISING, FALLING, NUMBER_OF, BITS};
    private int[] spellings = new int[64];
    private int[] sorts = new int[64];
    private int[] numbers = new int[64];
    private int[] parts = new int[64];
    private int[] outers = new int[64];
    private final int[] chains = new int[CHAINS];
    private final int[] starts = new int[MOST_SCOPES];
    private int size = 0;
    private int scopes = 1;

    Names() {
      Arrays.fill(chains, NONE);
      for (int name = 0; name < FIRST_SORTS.length; name++) {
        put(name, FIRST_SORTS[name], FIRST_NUMBERS[name], 0);
      }
      starts[0] = size;
    }

    private boolean has(int entry) {
      return entry >= 0 && entry < size;
    }

    int sortOf(int entry) {
      return has(entry) ? sorts[entry] : NONE;
    }

    int numberOf(int entry) {
      return has(entry) ? numbers[entry] : NONE;
    }

    int partOf(int entry) {
      return has(entry) ? parts[entry] : NONE;
    }

    int find(int name) {
      int entry = chains[name & (CHAINS - 1)];
      for (int i = 0; i < size && has(entry); i++) {
        if (spellings[entry] == name) {
          return entry;
        }
        entry = outers[entry];
      }
      return NONE;
    }

    boolean isTaken(int name) {
      return find(name) >= starts[scopes - 1];
    }

    boolean haveRoom(int more) {
      return size - FIRST_SORTS.length + more <= MOST_NAMES;
    }

    void put(int name, int sort, int number, int part) {
      spellings = withRoom(spellings, size + 1);
      sorts = withRoom(sorts, size + 1);
      numbers = withRoom(numbers, size + 1);
      parts = withRoom(parts, size + 1);
      outers = withRoom(outers, size + 1);
      int chain = name & (CHAINS - 1);
      spellings[size] = name;
      sorts[size] = sort;
      numbers[size] = number;
      parts[size] = part;
      outers[size] = chains[chain];
      chains[chain] = size;
      size++;
    }

    void open() {
      if (scopes < MOST_SCOPES) {
        starts[scopes] = size;
        scopes++;
      }
    }

    void close() {
      if (scopes > 1) {
        scopes--;
        int start = starts[scopes];
        for (int entry = size - 1; entry >= start; entry--) {
          chains[spellings[entry] & (CHAINS - 1)] = outers[entry];
        }
        size = start;
      }
    }
  }

  private static final class Types {
    private int[] classes = new int[16];
    private int[] lefts = new int[16];
    private int[] rights = new int[16];
    private int[] counts = new int[16];
    private int size = 0;

    Types() {
      put(LOGIC, 0, 0, 0);
      put(TRUTH, 0, 0, 0);
      put(INTEGER, -GREATEST, GREATEST, 0);
      put(INTEGER, 0, GREATEST, 0);
      put(INTEGER, 1, GREATEST, 0);
    }

    boolean has(int type) {
      return type >= 0 && type < size;
    }

    int classOf(int type) {
      return has(type) ? classes[type] : NONE;
    }

    int leftOf(int type) {
      return has(type) ? lefts[type] : 0;
    }

    int rightOf(int type) {
      return has(type) ? rights[type] : 0;
    }

    /** A row's elements are counted below 0 when it goes down: a row of one has no other sign of its way. */
    int countOf(int type) {
      return has(type) ? Math.abs(counts[type]) : 0;
    }

    boolean goesDown(int type) {
      return has(type) && counts[type] < 0;
    }

    /** What tells classes of one kind apart: a row's length, an ENUMERATION's own type. */
    int extentOf(int type) {
      int kind = classOf(type);
      return kind == ROW ? countOf(type) : kind == ENUMERATION ? type : 0;
    }

    /** An element's place from the right, or NONE when it is beyond the bounds. */
    int fromRight(int type, int place) {
      long steps = goesDown(type) ? (long) place - rightOf(type) : (long) rightOf(type) - place;
      return steps >= 0 && steps < countOf(type) ? (int) steps : NONE;
    }

    int put(int kind, int left, int right, int count) {
      classes = withRoom(classes, size + 1);
      lefts = withRoom(lefts, size + 1);
      rights = withRoom(rights, size + 1);
      counts = withRoom(counts, size + 1);
      classes[size] = kind;
      lefts[size] = left;
      rights[size] = right;
      counts[size] = count;
      size++;
      return size - 1;
    }
  }

  private static final class Objects {
    private int[] whats = new int[16];
    private int[] types = new int[16];
    private int[] numbers = new int[16];
    private final Rows rows = new Rows(16);
    private int size = 0;

    private boolean has(int object) {
      return object >= 0 && object < size;
    }

    int whatOf(int object) {
      return has(object) ? whats[object] : NONE;
    }

    int typeOfObject(int object) {
      return has(object) ? types[object] : NONE;
    }

    int numberOf(int object) {
      return has(object) ? numbers[object] : 0;
    }

    int put(int what, int type) {
      whats = withRoom(whats, size + 1);
      types = withRoom(types, size + 1);
      numbers = withRoom(numbers, size + 1);
      rows.makeRoom(size + 1);
      whats[size] = what;
      types[size] = type;
      numbers[size] = 0;
      size++;
      return size - 1;
    }

    void keep(int object, Looks looks, int node) {
      if (has(object)) {
        numbers[object] = looks.numberOf(node);
        rows.copy(object, looks.rows, node);
      }
    }
  }

  /** Rows of LOGIC, one a slot; at four bits an element no call needs an array of its own. */
  private static final class Rows {
    private static final int WORDS = 4, IN_WORD = 16, BITS_EACH = 4;
    private long[] words;

    Rows(int slots) {
      words = new long[Math.max(slots, 1) * WORDS];
    }

    void makeRoom(int slots) {
      if (slots * WORDS > words.length) {
        words = Arrays.copyOf(words, Math.max(slots * WORDS, 2 * words.length));
      }
    }

    private boolean has(int slot) {
      return slot >= 0 && slot < words.length / WORDS;
    }

    /** Element k from the right. */
    int get(int slot, int k) {
      if (slot < 0 || slot >= words.length / WORDS || k < 0 || k >= LONGEST_ROW) {
        return U;
      }
      return (int) (words[slot * WORDS + k / IN_WORD] >>> k % IN_WORD * BITS_EACH) & 15;
    }

    void set(int slot, int k, int sign) {
      if (slot >= 0 && slot < words.length / WORDS && k >= 0 && k < LONGEST_ROW) {
        int word = slot * WORDS + k / IN_WORD;
        int shift = k % IN_WORD * BITS_EACH;
        words[word] = words[word] & ~(15L << shift) | (long) sign << shift;
      }
    }

    void copy(int slot, Rows from, int fromSlot) {
      if (has(slot) && from.has(fromSlot)) {
        System.arraycopy(from.words, fromSlot * WORDS, words, slot * WORDS, WORDS);
      }
    }

    boolean isClear(int slot, int length) {
      for (int k = 0; k < length && k < LONGEST_ROW; k++) {
        if (!Logic.isClear(get(slot, k))) {
          return false;
        }
      }
      return true;
    }

    /** The number of a CLEAR row, by all 64 bits. */
    long bitsOf(int slot, int length) {
      long bits = 0;
      for (int k = 0; k < length && k < LONGEST_ROW; k++) {
        if (Logic.isHigh(get(slot, k))) {
          bits |= 1L << k;
        }
      }
      return bits;
    }

    void setBits(int slot, int length, long bits) {
      for (int k = 0; k < length && k < LONGEST_ROW; k++) {
        set(slot, k, (bits >>> k & 1) == 1 ? ONE : ZERO);
      }
    }

    void setAll(int slot, int length, int sign) {
      for (int k = 0; k < length && k < LONGEST_ROW; k++) {
        set(slot, k, sign);
      }
    }
  }

  /** Values of LOGIC and TRUTH under the operators 0 to 5. */
  private static final class Logic {
    static boolean isLow(int sign) {
      return sign == ZERO || sign == L;
    }

    static boolean isHigh(int sign) {
      return sign == ONE || sign == H;
    }

    static boolean isClear(int sign) {
      return sign == ZERO || sign == ONE || sign == L || sign == H;
    }

    static int not(int sign) {
      return sign == U ? U : isLow(sign) ? ONE : isHigh(sign) ? ZERO : X;
    }

    private static int and(int a, int b) {
      if (isLow(a) || isLow(b)) {
        return ZERO;
      }
      return a == U || b == U ? U : isHigh(a) && isHigh(b) ? ONE : X;
    }

    private static int or(int a, int b) {
      if (isHigh(a) || isHigh(b)) {
        return ONE;
      }
      return a == U || b == U ? U : isLow(a) && isLow(b) ? ZERO : X;
    }

    private static int other(int a, int b) {
      if (a == U || b == U) {
        return U;
      }
      return !isClear(a) || !isClear(b) ? X : isHigh(a) != isHigh(b) ? ONE : ZERO;
    }

    static int ofSigns(int operator, int a, int b) {
      switch (operator) {
        case AND:
          return and(a, b);
        case OR:
          return or(a, b);
        case AND_TURNED:
          return not(and(a, b));
        case OR_TURNED:
          return not(or(a, b));
        case OTHER:
          return other(a, b);
        default:
          return not(other(a, b));
      }
    }

    static boolean ofTruths(int operator, boolean a, boolean b) {
      switch (operator) {
        case AND:
          return a && b;
        case OR:
          return a || b;
        case AND_TURNED:
          return !(a && b);
        case OR_TURNED:
          return !(a || b);
        case OTHER:
          return a != b;
        default:
          return a == b;
      }
    }
  }

  /** What nodes are when looked at: class, length or ENUMERATION, constancy, meaning, value. */
  private static final class Looks {
    private int[] classes = new int[64];
    private int[] extents = new int[64];
    private int[] meanings = new int[64];
    private int[] numbers = new int[64];
    private int[] constancies = new int[64];
    private final Rows rows = new Rows(64);

    private boolean has(int node) {
      return node >= 0 && node < classes.length;
    }

    void makeRoom(int size) {
      classes = withRoom(classes, size);
      extents = withRoom(extents, size);
      meanings = withRoom(meanings, size);
      numbers = withRoom(numbers, size);
      constancies = withRoom(constancies, size);
      rows.makeRoom(size);
    }

    int classOf(int node) {
      return has(node) ? classes[node] : NONE;
    }

    int extentOf(int node) {
      return has(node) ? extents[node] : 0;
    }

    int meaningOf(int node) {
      return has(node) ? meanings[node] : NONE;
    }

    int numberOf(int node) {
      return has(node) ? numbers[node] : 0;
    }

    boolean isFixed(int node) {
      return has(node) && constancies[node] == 1;
    }

    void forget(int node) {
      if (has(node)) {
        classes[node] = NONE;
        extents[node] = 0;
        meanings[node] = NONE;
        numbers[node] = 0;
        constancies[node] = 0;
      }
    }

    void note(int node, int kind, int extent, boolean isFixed) {
      if (has(node)) {
        classes[node] = kind;
        extents[node] = extent;
        constancies[node] = isFixed ? 1 : 0;
      }
    }

    void setMeaning(int node, int meaning) {
      if (has(node)) {
        meanings[node] = meaning;
      }
    }

    void setNumber(int node, int number) {
      if (has(node)) {
        numbers[node] = number;
      }
    }

    void copy(Looks from, int node) {
      note(node, from.classOf(node), from.extentOf(node), from.isFixed(node));
      setMeaning(node, from.meaningOf(node));
      setNumber(node, from.numberOf(node));
      rows.copy(node, from.rows, node);
    }
  }

  /** UNARY and BINARY over operands that have been looked at. */
  private static final class Operators {
    private final Looks seen;

    Operators(Looks seen) {
      this.seen = seen;
    }

    int unary(int node, int operator, int a) {
      int kind = seen.classOf(a);
      boolean goes = operator == NOT ? kind == TRUTH || kind == LOGIC || kind == ROW : kind == INTEGER;
      if (!goes) {
        return CLASSES;
      }
      seen.note(node, kind, seen.extentOf(a), seen.isFixed(a));
      if (seen.isFixed(a)) {
        computeUnary(node, operator, a);
      }
      return FINE;
    }

    private void computeUnary(int node, int operator, int a) {
      int number = seen.numberOf(a);
      switch (seen.classOf(a)) {
        case TRUTH:
          seen.setNumber(node, 1 - number);
          break;
        case LOGIC:
          seen.setNumber(node, Logic.not(number));
          break;
        case ROW:
          for (int k = 0; k < seen.extentOf(a); k++) {
            seen.rows.set(node, k, Logic.not(seen.rows.get(a, k)));
          }
          break;
        default:
          seen.setNumber(node, operator == MINUS ? -number : operator == SIZE ? Math.abs(number) : number);
      }
    }

    int binary(int node, int operator, int a, int b) {
      int kind = resultClass(operator, a, b);
      if (kind == NONE) {
        return CLASSES;
      }
      int length = kind == ROW ? resultLength(operator, a, b) : 0;
      seen.note(node, kind, length, seen.isFixed(a) && seen.isFixed(b));
      boolean twoRows = seen.classOf(a) == ROW && seen.classOf(b) == ROW;
      if (length > LONGEST_ROW || (twoRows && operator != JOINED && seen.extentOf(a) != seen.extentOf(b))) {
        return LENGTHS;
      }
      if (!seen.isFixed(node)) {
        return FINE;
      }
      if (kind == INTEGER) {
        return calculate(node, operator, seen.numberOf(a), seen.numberOf(b));
      }
      if (operator <= OTHER_TURNED) {
        combine(node, operator, a, b);
      } else if (operator <= NOT_SAME) {
        seen.setNumber(node, areAlike(a, b) == (operator == SAME) ? 1 : 0);
      } else if (operator <= NOT_LESS) {
        seen.setNumber(node, isOrdered(operator, a, b) ? 1 : 0);
      } else if (operator <= DIFFERENCE) {
        sumRows(node, operator, a, b);
      } else if (operator == JOINED) {
        join(node, a, b);
      } else {
        shift(node, a, operator == SHIFTED_LEFT ? seen.numberOf(b) : -seen.numberOf(b));
      }
      return FINE;
    }

    private int resultClass(int operator, int a, int b) {
      int kind = seen.classOf(a);
      int other = seen.classOf(b);
      if (operator <= OTHER_TURNED) {
        return kind == other && (kind == TRUTH || kind == LOGIC || kind == ROW) ? kind : NONE;
      }
      if (operator <= NOT_SAME) {
        return areOfOneClass(a, b) ? TRUTH : NONE;
      }
      if (operator <= NOT_LESS) {
        return areOfOneClass(a, b) && kind != TRUTH && kind != LOGIC ? TRUTH : NONE;
      }
      boolean integers = kind == INTEGER && other == INTEGER;
      if (operator <= DIFFERENCE) {
        boolean countable = (kind == ROW || kind == INTEGER) && (other == ROW || other == INTEGER);
        return integers ? INTEGER : countable ? ROW : NONE;
      }
      if (operator == JOINED) {
        return (kind == ROW || kind == LOGIC) && (other == ROW || other == LOGIC) ? ROW : NONE;
      }
      if (operator <= REMAINDER) {
        return integers ? INTEGER : NONE;
      }
      return kind == ROW && other == INTEGER ? ROW : NONE;
    }

    /** Rows of different lengths too: those are another fault. */
    private boolean areOfOneClass(int a, int b) {
      int kind = seen.classOf(a);
      return kind == seen.classOf(b) && (kind != ENUMERATION || seen.extentOf(a) == seen.extentOf(b));
    }

    private int resultLength(int operator, int a, int b) {
      if (operator == JOINED) {
        return widthOf(a) + widthOf(b);
      }
      return seen.classOf(a) == ROW ? seen.extentOf(a) : seen.extentOf(b);
    }

    private int widthOf(int node) {
      return seen.classOf(node) == ROW ? seen.extentOf(node) : 1;
    }

    private void combine(int node, int operator, int a, int b) {
      switch (seen.classOf(node)) {
        case TRUTH:
          seen.setNumber(node, Logic.ofTruths(operator, seen.numberOf(a) == 1, seen.numberOf(b) == 1) ? 1 : 0);
          break;
        case LOGIC:
          seen.setNumber(node, Logic.ofSigns(operator, seen.numberOf(a), seen.numberOf(b)));
          break;
        default:
          for (int k = 0; k < seen.extentOf(node); k++) {
            seen.rows.set(node, k, Logic.ofSigns(operator, seen.rows.get(a, k), seen.rows.get(b, k)));
          }
      }
    }

    private boolean areAlike(int a, int b) {
      if (seen.classOf(a) != ROW) {
        return seen.numberOf(a) == seen.numberOf(b);
      }
      for (int k = 0; k < seen.extentOf(a); k++) {
        if (seen.rows.get(a, k) != seen.rows.get(b, k)) {
          return false;
        }
      }
      return true;
    }

    private boolean isOrdered(int operator, int a, int b) {
      int order = Integer.compare(seen.numberOf(a), seen.numberOf(b));
      if (seen.classOf(a) == ROW) {
        if (!isClear(a) || !isClear(b)) {
          return false;
        }
        // Numbers of 64 bits have no sign: turning the highest bit lets the signed order tell theirs.
        order = Long.compare(countsAs(a) ^ 1L << 63, countsAs(b) ^ 1L << 63);
      }
      switch (operator) {
        case LESS:
          return order < 0;
        case NOT_MORE:
          return order <= 0;
        case MORE:
          return order > 0;
        default:
          return order >= 0;
      }
    }

    private boolean isClear(int node) {
      return seen.classOf(node) != ROW || seen.rows.isClear(node, seen.extentOf(node));
    }

    private long countsAs(int node) {
      return seen.classOf(node) == ROW ? seen.rows.bitsOf(node, seen.extentOf(node)) : seen.numberOf(node);
    }

    private int calculate(int node, int operator, long a, long b) {
      boolean divides = operator >= QUOTIENT && operator <= REMAINDER;
      if (divides && b == 0) {
        return BY_NOTHING;
      }
      long result = divides ? divided(operator, a, b)
          : operator == SUM ? a + b : operator == DIFFERENCE ? a - b : a * b;
      if (result > GREATEST || result < -GREATEST) {
        return TOO_LARGE;
      }
      seen.setNumber(node, (int) result);
      return FINE;
    }

    private static long divided(int operator, long a, long b) {
      if (b == 0) {
        return 0;
      }
      return operator == QUOTIENT ? a / b : operator == MODULUS ? Math.floorMod(a, b) : a % b;
    }

    private void sumRows(int node, int operator, int a, int b) {
      int length = seen.extentOf(node);
      if (!isClear(a) || !isClear(b)) {
        seen.rows.setAll(node, length, X);
        return;
      }
      long bits = operator == SUM ? countsAs(a) + countsAs(b) : countsAs(a) - countsAs(b);
      seen.rows.setBits(node, length, bits);
    }

    private void join(int node, int a, int b) {
      int rightWidth = widthOf(b);
      for (int k = 0; k < seen.extentOf(node); k++) {
        seen.rows.set(node, k, k < rightWidth ? elementOf(b, k) : elementOf(a, k - rightWidth));
      }
    }

    private int elementOf(int node, int k) {
      return seen.classOf(node) == ROW ? seen.rows.get(node, k) : seen.numberOf(node);
    }

    private void shift(int node, int a, int toTheLeft) {
      int length = seen.extentOf(a);
      for (int k = 0; k < length; k++) {
        long from = (long) k - toTheLeft;
        seen.rows.set(node, k, from >= 0 && from < length ? seen.rows.get(a, (int) from) : ZERO);
      }
    }
  }

  /** The expressions that bear a name. */
  private static final class Meanings {
    private final Trees trees;
    private final Names names;
    private final Types types;
    private final Objects objects;
    private final Looks seen;

    Meanings(Trees trees, Names names, Types types, Objects objects, Looks seen) {
      this.trees = trees;
      this.names = names;
      this.types = types;
      this.objects = objects;
      this.seen = seen;
    }

    int name(int node) {
      if (trees.countOf(node) != 0) {
        return MALFORMED;
      }
      int entry = names.find(trees.valueOf(node));
      if (entry == NONE) {
        return UNKNOWN;
      }
      int number = names.numberOf(entry);
      switch (names.sortOf(entry)) {
        case MEANS_OBJECT:
          noteObject(node, number);
          return FINE;
        case MEANS_PLACE:
          noteValue(node, ENUMERATION, number, names.partOf(entry));
          return FINE;
        case MEANS_TRUTH:
          noteValue(node, TRUTH, 0, number);
          return FINE;
        default:
          return MISPLACED;
      }
    }

    private void noteObject(int node, int object) {
      int type = objects.typeOfObject(object);
      seen.note(node, types.classOf(type), types.extentOf(type), isConstant(object));
      seen.setMeaning(node, object);
      seen.setNumber(node, objects.numberOf(object));
      seen.rows.copy(node, objects.rows, object);
    }

    private void noteValue(int node, int kind, int extent, int number) {
      seen.note(node, kind, extent, true);
      seen.setMeaning(node, VALUE_NAME);
      seen.setNumber(node, number);
    }

    private boolean isConstant(int object) {
      return objects.whatOf(object) == CONSTANT;
    }

    private boolean isRow(int object) {
      return types.classOf(objects.typeOfObject(object)) == ROW;
    }

    /** The object that a node's name means, or NONE. */
    private int objectAt(int node) {
      int entry = names.find(trees.valueOf(node));
      return names.sortOf(entry) == MEANS_OBJECT ? names.numberOf(entry) : NONE;
    }

    private boolean isUnknown(int node) {
      return names.find(trees.valueOf(node)) == NONE;
    }

    int apply(int node) {
      int entry = names.find(trees.valueOf(node));
      if (entry == NONE) {
        return UNKNOWN;
      }
      if (names.sortOf(entry) == MEANS_FUNCTION) {
        return applyFunction(node, names.numberOf(entry));
      }
      int object = objectAt(node);
      if (object == NONE || !isRow(object)) {
        return MISPLACED;
      }
      return trees.countOf(node) == 1 ? element(node, object, node - 1) : MALFORMED;
    }

    private int element(int node, int object, int place) {
      if (seen.classOf(place) != INTEGER) {
        return CLASSES;
      }
      seen.note(node, LOGIC, 0, isConstant(object) && seen.isFixed(place));
      seen.setMeaning(node, object);
      if (!seen.isFixed(place)) {
        return FINE;
      }
      int k = types.fromRight(objects.typeOfObject(object), seen.numberOf(place));
      if (k == NONE) {
        return BEYOND_BOUNDS;
      }
      seen.setNumber(node, objects.rows.get(object, k));
      return FINE;
    }

    private int applyFunction(int node, int function) {
      seen.setMeaning(node, FUNCTION_NAME);
      if (trees.countOf(node) != (function == BITS ? 2 : 1)) {
        return MALFORMED;
      }
      switch (function) {
        case NUMBER_OF:
          return numberOfRow(node, node - 1);
        case BITS:
          return bits(node, trees.leftOfTwo(node), node - 1);
        default:
          return edge(node, node - 1);
      }
    }

    /** Rising and falling. */
    private int edge(int node, int argument) {
      if (trees.kindOf(argument) != NAME) {
        return MALFORMED;
      }
      if (objects.whatOf(seen.meaningOf(argument)) != SIGNAL) {
        return MISPLACED;
      }
      if (seen.classOf(argument) != LOGIC) {
        return CLASSES;
      }
      seen.note(node, TRUTH, 0, false);
      return FINE;
    }

    private int numberOfRow(int node, int row) {
      if (seen.classOf(row) != ROW) {
        return CLASSES;
      }
      seen.note(node, INTEGER, 0, seen.isFixed(row));
      if (!seen.isFixed(row)) {
        return FINE;
      }
      int length = seen.extentOf(row);
      long number = seen.rows.bitsOf(row, length);
      if (!seen.rows.isClear(row, length) || number < 0 || number > GREATEST) {
        return TOO_LARGE;
      }
      seen.setNumber(node, (int) number);
      return FINE;
    }

    private int bits(int node, int number, int length) {
      // The document counts a length that is not constant among the wrong arguments (3), not under 5.
      if (seen.classOf(number) != INTEGER || seen.classOf(length) != INTEGER || !seen.isFixed(length)) {
        return CLASSES;
      }
      int n = seen.numberOf(length);
      boolean isLength = n >= 1 && n <= LONGEST_ROW;
      seen.note(node, ROW, isLength ? n : 0, seen.isFixed(number));
      if (!isLength) {
        return LENGTHS;
      }
      if (seen.isFixed(number)) {
        seen.rows.setBits(node, n, seen.numberOf(number));
      }
      return FINE;
    }

    int slice(int node) {
      if (trees.countOf(node) != 2) {
        return MALFORMED;
      }
      if (isUnknown(node)) {
        return UNKNOWN;
      }
      int object = objectAt(node);
      if (object == NONE || !isRow(object)) {
        return MISPLACED;
      }
      int to = node - 1;
      int from = trees.leftOfTwo(node);
      if (seen.classOf(from) != INTEGER || seen.classOf(to) != INTEGER) {
        return CLASSES;
      }
      seen.note(node, ROW, 0, isConstant(object) && seen.isFixed(from) && seen.isFixed(to));
      seen.setMeaning(node, object);
      if (!seen.isFixed(from) || !seen.isFixed(to)) {
        return NOT_CONSTANT;
      }
      return cut(node, object, seen.numberOf(from), seen.numberOf(to));
    }

    private int cut(int node, int object, int from, int to) {
      int type = objects.typeOfObject(object);
      int leftmost = types.fromRight(type, from);
      int rightmost = types.fromRight(type, to);
      boolean sameWay = types.goesDown(type) == (trees.kindOf(node) == SLICE_DOWN);
      if (!sameWay || leftmost == NONE || rightmost == NONE || leftmost < rightmost) {
        return BEYOND_BOUNDS;
      }
      int length = leftmost - rightmost + 1;
      seen.note(node, ROW, length, isConstant(object));
      for (int k = 0; k < length; k++) {
        seen.rows.set(node, k, objects.rows.get(object, rightmost + k));
      }
      return FINE;
    }

    int attribute(int node) {
      int child = node - 1;
      int which = trees.valueOf(child);
      if (trees.countOf(node) != 1 || trees.kindOf(child) != NAME || trees.countOf(child) != 0
          || which < EVENT || which > LOW) {
        return MALFORMED;
      }
      if (isUnknown(node)) {
        return UNKNOWN;
      }
      int object = objectAt(node);
      if (object == NONE || (which <= LAST && objects.whatOf(object) != SIGNAL)) {
        return MISPLACED;
      }
      if (which >= LENGTH && !isRow(object)) {
        return CLASSES;
      }
      noteAttribute(node, which, objects.typeOfObject(object));
      seen.setMeaning(node, object);
      return FINE;
    }

    private void noteAttribute(int node, int which, int type) {
      if (which >= LENGTH) {
        seen.note(node, INTEGER, 0, true);
        seen.setNumber(node, boundOf(which, type));
      } else if (which == LAST) {
        seen.note(node, types.classOf(type), types.extentOf(type), false);
      } else {
        seen.note(node, TRUTH, 0, false);
      }
    }

    private int boundOf(int which, int type) {
      int left = types.leftOf(type);
      int right = types.rightOf(type);
      switch (which) {
        case LEFT:
          return left;
        case RIGHT:
          return right;
        case HIGH:
          return Math.max(left, right);
        case LOW:
          return Math.min(left, right);
        default:
          return types.countOf(type);
      }
    }
  }

  /**
   * Looks at the nodes of a tree one after the other. What it sees is kept apart from what is known of the
   * nodes and told only when the whole call is without a fault, because a fault must change nothing.
   */
  private static final class Looker {
    private final Trees trees;
    private final Names names;
    private final Types types;
    private final Looks seen = new Looks();
    private final Operators operators = new Operators(seen);
    private final Meanings meanings;
    private int[] hidden = new int[64];
    private int at = NONE;

    Looker(Trees trees, Names names, Types types, Objects objects) {
      this.trees = trees;
      this.names = names;
      this.types = types;
      this.meanings = new Meanings(trees, names, types, objects, seen);
    }

    void makeRoom(int size) {
      seen.makeRoom(size);
      hidden = withRoom(hidden, size);
    }

    private boolean isHidden(int node) {
      return node < 0 || node >= hidden.length || hidden[node] == 1;
    }

    /** The first fault of the nodes in the tree of one, up to the last that is asked for; at tells where. */
    int look(int node, int last) {
      hideBelowAttributes(node);
      for (int i = trees.firstOf(node); i <= last; i++) {
        at = i;
        int fault = isHidden(i) ? FINE : lookAt(i);
        if (fault != FINE) {
          return fault;
        }
      }
      return FINE;
    }

    private void hideBelowAttributes(int node) {
      int lowestHidden = node + 1;
      for (int i = node; i >= trees.firstOf(node) && i < hidden.length; i--) {
        hidden[i] = i >= lowestHidden ? 1 : 0;
        if (i < lowestHidden && trees.kindOf(i) == ATTRIBUTE) {
          lowestHidden = trees.firstOf(i);
        }
      }
    }

    void tell(Looks known, int node, int last) {
      for (int i = trees.firstOf(node); i <= last; i++) {
        if (!isHidden(i)) {
          known.copy(seen, i);
        }
      }
    }

    /** The fault that counts when a node was looked at for a type (NONE: any), and for a constant perhaps. */
    int judge(int fault, int node, int type, boolean constant) {
      if (fault != FINE && at != node) {
        return fault;
      }
      int misfit = constant && !seen.isFixed(node) ? NOT_CONSTANT : FINE;
      if (type != NONE) {
        misfit = earlier(classMisfit(node, type), misfit);
      }
      if (type != NONE && fault == FINE && isOutside(node, type)) {
        misfit = earlier(misfit, OUTSIDE);
      }
      return earlier(fault, misfit);
    }

    /** Of one node 11 counts first, then the others as they are numbered. */
    private static int earlier(int fault, int other) {
      if (fault == FINE || other == FINE) {
        return fault == FINE ? other : fault;
      }
      return fault % MALFORMED <= other % MALFORMED ? fault : other;
    }

    private int classMisfit(int node, int type) {
      int kind = seen.classOf(node);
      int extent = seen.extentOf(node);
      if (kind != types.classOf(type) || (kind == ENUMERATION && extent != types.extentOf(type))) {
        return CLASSES;
      }
      // A faulty row may have no length that could be compared.
      return kind == ROW && extent != 0 && extent != types.extentOf(type) ? LENGTHS : FINE;
    }

    private boolean isOutside(int node, int type) {
      int number = seen.numberOf(node);
      return seen.classOf(node) == INTEGER && seen.isFixed(node)
          && (number < types.leftOf(type) || number > types.rightOf(type));
    }

    private int lookAt(int node) {
      seen.forget(node);
      switch (trees.kindOf(node)) {
        case NAME:
          return meanings.name(node);
        case NUMBER:
          return leaf(node, INTEGER, GREATEST);
        case SIGN:
          return leaf(node, LOGIC, FREE);
        case SIGNS:
          return signs(node);
        case UNARY:
          return isOperator(node, 1, SIZE) ? operators.unary(node, trees.valueOf(node), node - 1) : MALFORMED;
        case BINARY:
          return isOperator(node, 2, SHIFTED_RIGHT)
              ? operators.binary(node, trees.valueOf(node), trees.leftOfTwo(node), node - 1) : MALFORMED;
        case APPLY:
          return meanings.apply(node);
        case SLICE_UP:
        case SLICE_DOWN:
          return meanings.slice(node);
        case ATTRIBUTE:
          return meanings.attribute(node);
        default:
          return MALFORMED;
      }
    }

    private boolean isOperator(int node, int operands, int last) {
      int operator = trees.valueOf(node);
      return trees.countOf(node) == operands && operator >= 0 && operator <= last;
    }

    private int leaf(int node, int kind, int greatest) {
      int number = trees.valueOf(node);
      if (trees.countOf(node) != 0 || number < 0 || number > greatest) {
        return MALFORMED;
      }
      seen.note(node, kind, 0, true);
      seen.setNumber(node, number);
      return FINE;
    }

    private int signs(int node) {
      int length = trees.countOf(node);
      if (length < 1 || length > LONGEST_ROW) {
        return MALFORMED;
      }
      int child = node - 1;
      for (int k = 0; k < length; k++) {
        if (trees.kindOf(child) != SIGN) {
          return MALFORMED;
        }
        seen.rows.set(node, k, trees.valueOf(child));
        child = trees.firstOf(child) - 1;
      }
      seen.note(node, ROW, length, true);
      return FINE;
    }

    /** The fault of a type's own node, when all below it has been looked at. */
    int typeFault(int node) {
      int kind = trees.kindOf(node);
      if (kind == TYPE) {
        return namedTypeFault(node);
      }
      if (kind < RANGE || kind > ROW_DOWN || trees.countOf(node) != 2) {
        return MALFORMED;
      }
      if (trees.valueOf(node) != (kind == RANGE ? INTEGERS_NAME : ROWS_NAME)) {
        return MISPLACED;
      }
      int left = trees.leftOfTwo(node);
      int right = node - 1;
      if (seen.classOf(left) != INTEGER || seen.classOf(right) != INTEGER) {
        return CLASSES;
      }
      if (!seen.isFixed(left) || !seen.isFixed(right)) {
        return NOT_CONSTANT;
      }
      return boundsFault(kind, seen.numberOf(left), seen.numberOf(right));
    }

    private int namedTypeFault(int node) {
      if (trees.countOf(node) != 0) {
        return MALFORMED;
      }
      int entry = names.find(trees.valueOf(node));
      return entry == NONE ? UNKNOWN : names.sortOf(entry) == MEANS_TYPE ? FINE : MISPLACED;
    }

    private static int boundsFault(int kind, int left, int right) {
      if (kind == RANGE) {
        return left > right ? OUTSIDE : FINE;
      }
      long count = elementsOf(kind, left, right);
      if (count > LONGEST_ROW) {
        return LENGTHS;
      }
      return left < 0 || right < 0 || count < 1 ? BEYOND_BOUNDS : FINE;
    }

    private static long elementsOf(int kind, long left, long right) {
      return kind == ROW_UP ? right - left + 1 : left - right + 1;
    }

    int namedType(int node) {
      return names.numberOf(names.find(trees.valueOf(node)));
    }

    int newType(int node) {
      int kind = trees.kindOf(node);
      int left = seen.numberOf(trees.leftOfTwo(node));
      int right = seen.numberOf(node - 1);
      if (kind == RANGE) {
        return types.put(INTEGER, left, right, 0);
      }
      int count = (int) elementsOf(kind, left, right);
      return types.put(ROW, left, right, kind == ROW_DOWN ? -count : count);
    }
  }
}
