import java.util.NoSuchElementException;

/**
 * Small worlds made larger by what can't be told ahead: conditions with an order, names of sets,
 * formulas about names, and three ways to judge those: by values, by forcing, by weak forcing.
 */
public final class Genericwood {
  private static final int MOST_CONDITIONS = 7;
  private static final int MOST_NAMES = 12;
  private static final int MOST_PAIRS = 4;
  private static final int MOST_RANK = 3;
  private static final int CODES = 16;
  private static final int MOST_FORMULAS = 16;
  private static final int MOST_DEPTH = 5;
  private static final int LETTERS = 4;
  private static final int FIRST_LETTER = 100;
  private static final int BITS = 32;
  private static final int NONE = -1;

  private final Order order;
  private final Names names;
  private final Formulas formulas;
  private final Way valued;
  private final Way forced;
  private final Way weak;
  private final World visited;

  public Genericwood() {
    Order newOrder = new Order();
    Names newNames = new Names(newOrder);
    Formulas newFormulas = new Formulas();
    order = newOrder;
    names = newNames;
    formulas = newFormulas;
    valued = new Valued(newOrder, newNames, newFormulas);
    forced = new Forced(newOrder, newNames, newFormulas);
    weak = new Weak(newOrder, newNames, newFormulas);
    visited = new World(newOrder, newNames, newFormulas);
  }

  // ---- conditions

  public int condition() throws IllegalStateException {
    if (order.size() >= MOST_CONDITIONS) {
      throw new IllegalStateException("there are 7 conditions");
    }
    return order.add();
  }

  public int under(int condition, int other)
      throws IndexOutOfBoundsException, UnsupportedOperationException {
    needConditions(condition, other);
    if (order.stands(condition, other) || order.stands(other, condition)) {
      throw new UnsupportedOperationException("one is below the other already");
    }
    order.place(condition, other);
    return order.pairsBelow();
  }

  public boolean isBelow(int condition, int other) throws IndexOutOfBoundsException {
    needConditions(condition, other);
    return order.stands(condition, other);
  }

  public boolean fit(int condition, int other) throws IndexOutOfBoundsException {
    needConditions(condition, other);
    return order.agree(condition, other);
  }

  public int lasts() {
    return order.ends();
  }

  public boolean isAntichain(int set) throws IllegalArgumentException {
    needSet(set);
    for (int p = 0; p < order.size(); p++) {
      for (int q = p + 1; q < order.size(); q++) {
        if (contains(set, p) && contains(set, q) && order.agree(p, q)) {
          return false;
        }
      }
    }
    return true;
  }

  public int widest() {
    // The last ones are an antichain, and the members of any antichain have unlike last ones
    // below them, so none is greater.
    return Integer.bitCount(order.ends());
  }

  public boolean isDense(int set) throws IllegalArgumentException {
    needSet(set);
    for (int p = 0; p < order.size(); p++) {
      if ((order.down(p) & set) == 0) {
        return false;
      }
    }
    return true;
  }

  public boolean isFilter(int set) throws IllegalArgumentException {
    needSet(set);
    if (set == 0) {
      return false;
    }
    for (int p = 0; p < order.size(); p++) {
      if (contains(set, p) && (!isPart(order.up(p), set) || !meetsAll(p, set))) {
        return false;
      }
    }
    return true;
  }

  /** Tells whether, for each condition of a set, the set has one below that and a given one. */
  private boolean meetsAll(int condition, int set) {
    for (int q = 0; q < order.size(); q++) {
      if (contains(set, q) && (order.down(condition) & order.down(q) & set) == 0) {
        return false;
      }
    }
    return true;
  }

  public int filters() {
    // A filter of finitely many conditions has a lowest one, and is all above that.
    return order.size();
  }

  public boolean isSeparative() {
    for (int p = 0; p < order.size(); p++) {
      for (int q = 0; q < order.size(); q++) {
        if (!order.stands(p, q) && !canAvoid(p, q)) {
          return false;
        }
      }
    }
    return true;
  }

  /** Tells whether some condition below the first one does not fit the second one. */
  private boolean canAvoid(int condition, int other) {
    for (int r = 0; r < order.size(); r++) {
      if (order.stands(r, condition) && !order.agree(r, other)) {
        return true;
      }
    }
    return false;
  }

  public int cut(int condition) throws IndexOutOfBoundsException {
    needCondition(condition);
    return order.endsOf(condition);
  }

  public int closure(int set) throws IllegalArgumentException {
    needSet(set);
    int covered = 0;
    for (int p = 0; p < order.size(); p++) {
      if (contains(set, p)) {
        covered |= order.endsOf(p);
      }
    }
    int closed = 0;
    for (int p = 0; p < order.size(); p++) {
      if (isPart(order.endsOf(p), covered)) {
        closed |= 1 << p;
      }
    }
    return closed;
  }

  public int filterOf(int world) throws IllegalArgumentException {
    needWorld(world);
    return order.up(world);
  }

  // ---- names

  public int name() throws IllegalStateException {
    needRoomForNames(1);
    return names.add();
  }

  public int pair(int name, int lower, int condition)
      throws IndexOutOfBoundsException, IllegalArgumentException, UnsupportedOperationException,
          IllegalStateException {
    needName(name);
    needName(lower);
    needCondition(condition);
    if (lower >= name) {
      throw new IllegalArgumentException("the other name has no lower number");
    }
    if (names.isStandard(name)
        || names.hasPair(name, lower, condition)
        || names.wouldRiseTooHigh(name, lower)) {
      throw new UnsupportedOperationException("the pair is not for this name");
    }
    if (names.pairsOf(name) >= MOST_PAIRS) {
      throw new IllegalStateException("the name has 4 pairs");
    }
    names.addPair(name, lower, condition);
    return names.pairsOf(name);
  }

  public int unpair(int name) throws IndexOutOfBoundsException, UnsupportedOperationException {
    needName(name);
    if (names.isStandard(name) || names.pairsOf(name) == 0) {
      throw new UnsupportedOperationException("there is no pair to take away");
    }
    names.dropPair(name);
    return names.pairsOf(name);
  }

  public int rank(int name) throws IndexOutOfBoundsException {
    needName(name);
    return names.height(name);
  }

  public int standard(int code)
      throws IllegalArgumentException, UnsupportedOperationException, IllegalStateException {
    if (code < 0 || code >= CODES) {
      throw new IllegalArgumentException("the code is not in 0 to 15");
    }
    if (order.size() == 0 || order.down(0) != order.all()) {
      throw new UnsupportedOperationException("the condition 0 is not above all");
    }
    int missing = names.missingFor(code);
    needRoomForNames(Integer.bitCount(missing));
    for (int wanted = 0; wanted < CODES; wanted++) {
      if (contains(missing, wanted)) {
        names.addStandard(wanted);
      }
    }
    return names.standardOf(code);
  }

  public int becomes(int name, int world)
      throws IndexOutOfBoundsException, IllegalArgumentException {
    needName(name);
    needWorld(world);
    visited.enter(world, false);
    return visited.codeOf(name);
  }

  public int valueIn(int name, int other) throws IndexOutOfBoundsException {
    needName(name);
    needName(other);
    return valued.inside(name, other);
  }

  public int valueLike(int name, int other) throws IndexOutOfBoundsException {
    needName(name);
    needName(other);
    return valued.alike(name, other);
  }

  public boolean forcesIn(int condition, int name, int other) throws IndexOutOfBoundsException {
    needCondition(condition);
    needName(name);
    needName(other);
    return contains(forced.inside(name, other), condition);
  }

  public boolean forcesLike(int condition, int name, int other) throws IndexOutOfBoundsException {
    needCondition(condition);
    needName(name);
    needName(other);
    return contains(forced.alike(name, other), condition);
  }

  public int mix(int name, int condition, int other, int second)
      throws IndexOutOfBoundsException, UnsupportedOperationException, IllegalStateException {
    needName(name);
    needCondition(condition);
    needName(other);
    needCondition(second);
    if (order.agree(condition, second)) {
      throw new UnsupportedOperationException("the conditions fit");
    }
    int size = names.draft(name, condition, other, second);
    if (size > MOST_PAIRS) {
      throw new UnsupportedOperationException("the mixture would have more than 4 pairs");
    }
    needRoomForNames(1);
    return names.addDraft(size);
  }

  // ---- formulas

  public int atom(char kind, int term, int other)
      throws IllegalArgumentException, IllegalStateException {
    if (kind != 'e' && kind != '=') {
      throw new IllegalArgumentException("there is no such kind");
    }
    needTerm(term);
    needTerm(other);
    needRoomForFormula();
    return formulas.add(kind, term, other, NONE, 1, letterOf(term) | letterOf(other));
  }

  public int both(char kind, int formula, int other)
      throws IndexOutOfBoundsException, IllegalArgumentException, UnsupportedOperationException,
          IllegalStateException {
    needFormula(formula);
    needFormula(other);
    if (kind != 'a' && kind != 'o') {
      throw new IllegalArgumentException("there is no such kind");
    }
    int depth = 1 + Math.max(formulas.depth(formula), formulas.depth(other));
    needDepth(depth);
    needRoomForFormula();
    int open = formulas.open(formula) | formulas.open(other);
    return formulas.add(kind, formula, other, NONE, depth, open);
  }

  public int not(int formula)
      throws IndexOutOfBoundsException, UnsupportedOperationException, IllegalStateException {
    needFormula(formula);
    int depth = 1 + formulas.depth(formula);
    needDepth(depth);
    needRoomForFormula();
    return formulas.add('n', formula, NONE, NONE, depth, formulas.open(formula));
  }

  public int bind(char kind, int letter, int bound, int formula)
      throws IndexOutOfBoundsException, IllegalArgumentException, UnsupportedOperationException,
          IllegalStateException {
    needFormula(formula);
    if (kind != 'A' && kind != 'E') {
      throw new IllegalArgumentException("there is no such kind");
    }
    if (letter < 0 || letter >= LETTERS) {
      throw new IllegalArgumentException("there is no such letter");
    }
    needTerm(bound);
    int depth = 1 + formulas.depth(formula);
    needDepth(depth);
    needRoomForFormula();
    int open = formulas.open(formula) & ~(1 << letter) | letterOf(bound);
    return formulas.add(kind, bound, formula, letter, depth, open);
  }

  public int free(int formula) throws IndexOutOfBoundsException {
    needFormula(formula);
    return formulas.open(formula);
  }

  public int value(int formula) throws IndexOutOfBoundsException, UnsupportedOperationException {
    needClosed(formula);
    return valued.judge(formula);
  }

  public boolean forces(int condition, int formula)
      throws IndexOutOfBoundsException, UnsupportedOperationException {
    needCondition(condition);
    needClosed(formula);
    return contains(forced.judge(formula), condition);
  }

  public boolean weakly(int condition, int formula)
      throws IndexOutOfBoundsException, UnsupportedOperationException {
    needCondition(condition);
    needClosed(formula);
    return contains(weak.judge(formula), condition);
  }

  public boolean holds(int formula, int world)
      throws IndexOutOfBoundsException, UnsupportedOperationException, IllegalArgumentException {
    needClosed(formula);
    needWorld(world);
    visited.enter(world, false);
    return visited.agrees(formula);
  }

  public int against(int formula)
      throws IndexOutOfBoundsException, UnsupportedOperationException, NoSuchElementException {
    needClosed(formula);
    int lacking = order.ends() & ~visited.worldsOf(formula);
    for (int world = 0; world < order.size(); world++) {
      if (contains(lacking, world)) {
        return world;
      }
    }
    throw new NoSuchElementException("the formula is so in every world");
  }

  // ---- maps and sums

  public boolean swap(int condition, int other) throws IndexOutOfBoundsException {
    needConditions(condition, other);
    order.exchange(condition, other);
    return order.isKept();
  }

  public int goes(int condition) throws IndexOutOfBoundsException {
    needCondition(condition);
    return order.image(condition);
  }

  public boolean isFixed(int name) throws IndexOutOfBoundsException, UnsupportedOperationException {
    needName(name);
    if (!order.isKept()) {
      throw new UnsupportedOperationException("the map does not keep the order");
    }
    int worlds = order.ends();
    for (int world = 0; world < order.size(); world++) {
      if (contains(worlds, world)) {
        visited.enter(world, false);
        int stayed = visited.codeOf(name);
        visited.enter(world, true);
        if (visited.codeOf(name) != stayed) {
          return false;
        }
      }
    }
    return true;
  }

  public int clear() {
    return formulas.removeAll();
  }

  public long checksum() {
    long sum = 7;
    for (int p = 0; p < order.size(); p++) {
      sum = 31 * sum + order.down(p);
    }
    for (int n = 0; n < names.size(); n++) {
      sum = 31 * sum + names.height(n);
      for (int k = 0; k < names.pairsOf(n); k++) {
        sum = 31 * sum + names.lower(n, k) + 16 * names.promise(n, k);
      }
    }
    return 31 * sum + formulas.size();
  }

  public float lastShare() throws NoSuchElementException {
    if (order.size() == 0) {
      throw new NoSuchElementException("there are no conditions");
    }
    return (float) Integer.bitCount(order.ends()) / (float) order.size();
  }

  public double meanRank() throws NoSuchElementException {
    if (names.size() == 0) {
      throw new NoSuchElementException("there are no names");
    }
    int sum = 0;
    for (int n = 0; n < names.size(); n++) {
      sum += names.height(n);
    }
    return (double) sum / (double) names.size();
  }

  public boolean isSound() {
    for (int f = 0; f < formulas.size(); f++) {
      if (formulas.open(f) == 0) {
        int worth = valued.judge(f);
        if (!isForcedAsValued(forced.judge(f), worth) || worth != visited.worldsOf(f)) {
          return false;
        }
      }
    }
    int worlds = order.ends();
    for (int world = 0; world < order.size(); world++) {
      if (contains(worlds, world)) {
        visited.enter(world, false);
        if (!isAlikeAsBecome(world)) {
          return false;
        }
      }
    }
    return true;
  }

  /** Tells whether just those conditions force of which the cut is within the value. */
  private boolean isForcedAsValued(int forcing, int worth) {
    for (int p = 0; p < order.size(); p++) {
      if (contains(forcing, p) != isPart(order.endsOf(p), worth)) {
        return false;
      }
    }
    return true;
  }

  /** Tells whether names that are alike in the world entered become the same in it. */
  private boolean isAlikeAsBecome(int world) {
    for (int n = 0; n < names.size(); n++) {
      for (int m = 0; m < names.size(); m++) {
        if (contains(valued.alike(n, m), world) && visited.codeOf(n) != visited.codeOf(m)) {
          return false;
        }
      }
    }
    return true;
  }

  // ---- what calls need

  private void needCondition(int condition) {
    if (!order.knows(condition)) {
      throw new IndexOutOfBoundsException("there is no such condition");
    }
  }

  private void needConditions(int condition, int other) {
    needCondition(condition);
    needCondition(other);
  }

  private void needSet(int set) {
    if (!isPart(set, order.all())) {
      throw new IllegalArgumentException("the set has other ones");
    }
  }

  private void needWorld(int world) {
    if (!contains(order.ends(), world)) {
      throw new IllegalArgumentException("it is no last condition");
    }
  }

  private void needName(int name) {
    if (!names.knows(name)) {
      throw new IndexOutOfBoundsException("there is no such name");
    }
  }

  private void needRoomForNames(int more) {
    if (names.size() + more > MOST_NAMES) {
      throw new IllegalStateException("there would be more than 12 names");
    }
  }

  private void needTerm(int term) {
    if (!names.knows(term) && !isLetter(term)) {
      throw new IllegalArgumentException("a term is no name that is there, nor a letter");
    }
  }

  private void needFormula(int formula) {
    if (!formulas.knows(formula)) {
      throw new IndexOutOfBoundsException("there is no such formula");
    }
  }

  private void needClosed(int formula) {
    needFormula(formula);
    if (formulas.open(formula) != 0) {
      throw new UnsupportedOperationException("the formula is not closed");
    }
  }

  private static void needDepth(int depth) {
    if (depth > MOST_DEPTH) {
      throw new UnsupportedOperationException("the depth would be above 5");
    }
  }

  private void needRoomForFormula() {
    if (formulas.size() >= MOST_FORMULAS) {
      throw new IllegalStateException("there are 16 formulas");
    }
  }

  // ---- sets as bits, and rows

  private static boolean contains(int set, int element) {
    return element >= 0 && element < BITS && (set >>> element & 1) != 0;
  }

  private static boolean isPart(int part, int whole) {
    return (part & ~whole) == 0;
  }

  private static boolean isLetter(int term) {
    return term >= FIRST_LETTER && term < FIRST_LETTER + LETTERS;
  }

  /** The letter of a term, as a set; empty for a name. */
  private static int letterOf(int term) {
    return isLetter(term) ? 1 << term - FIRST_LETTER : 0;
  }

  // Every row is read and written here alone, so that no index can leave its row.
  private static int at(int[] row, int index) {
    return index >= 0 && index < row.length ? row[index] : 0;
  }

  private static void put(int[] row, int index, int entry) {
    if (index >= 0 && index < row.length) {
      row[index] = entry;
    }
  }

  /** The conditions with what is below them, and the map that sends them. */
  private static final class Order {
    private int count;
    private int changes;
    private int ends;
    private final int[] downs = new int[MOST_CONDITIONS];
    private final int[] images = new int[MOST_CONDITIONS];

    int size() {
      return count;
    }

    int changes() {
      return changes;
    }

    boolean knows(int condition) {
      return condition >= 0 && condition < count;
    }

    int all() {
      return (1 << count) - 1;
    }

    int add() {
      int condition = count;
      put(downs, condition, 1 << condition);
      put(images, condition, condition);
      ends |= 1 << condition;
      count++;
      changes++;
      return condition;
    }

    /** All below a condition, itself too. */
    int down(int condition) {
      return at(downs, condition);
    }

    /** All above a condition, itself too. */
    int up(int condition) {
      int set = 0;
      for (int p = 0; p < count; p++) {
        if (stands(condition, p)) {
          set |= 1 << p;
        }
      }
      return set;
    }

    /** Tells whether the first condition is below the second one. */
    boolean stands(int condition, int other) {
      return contains(down(other), condition);
    }

    boolean agree(int condition, int other) {
      return (down(condition) & down(other)) != 0;
    }

    /** Puts a condition below another one, with all that is below it, and below all above that. */
    void place(int condition, int other) {
      int more = down(condition);
      for (int p = 0; p < count; p++) {
        if (stands(other, p)) {
          put(downs, p, down(p) | more);
        }
      }
      ends &= ~(1 << other);
      changes++;
    }

    int pairsBelow() {
      int pairs = 0;
      for (int p = 0; p < count; p++) {
        pairs += Integer.bitCount(down(p)) - 1;
      }
      return pairs;
    }

    /** The last conditions. */
    int ends() {
      return ends;
    }

    /** The last conditions below a condition. */
    int endsOf(int condition) {
      return at(downs, condition) & ends;
    }

    /** The conditions below which there is none of a set. */
    int avoiding(int set) {
      int found = 0;
      for (int p = 0; p < count; p++) {
        if ((at(downs, p) & set) == 0) {
          found |= 1 << p;
        }
      }
      return found;
    }

    int image(int condition) {
      return at(images, condition);
    }

    void exchange(int condition, int other) {
      int kept = image(condition);
      put(images, condition, image(other));
      put(images, other, kept);
    }

    /** Tells whether the map keeps the order. */
    boolean isKept() {
      for (int p = 0; p < count; p++) {
        for (int q = 0; q < count; q++) {
          if (stands(p, q) != stands(image(p), image(q))) {
            return false;
          }
        }
      }
      return true;
    }
  }

  /** The names with their pairs and ranks; a pair is its name and 16 times its condition. */
  private static final class Names {
    private final Order order;
    private int count;
    private int changes;
    private final int[] sizes = new int[MOST_NAMES];
    private final int[] pairs = new int[MOST_NAMES * MOST_PAIRS];
    private final int[] heights = new int[MOST_NAMES];
    private final int[] trial = new int[MOST_NAMES];
    private final int[] drafted = new int[MOST_PAIRS];
    /** For each code 1 more than its standard name, or 0. */
    private final int[] standards = new int[CODES];

    Names(Order order) {
      this.order = order;
    }

    int size() {
      return count;
    }

    int changes() {
      return changes;
    }

    boolean knows(int name) {
      return name >= 0 && name < count;
    }

    int pairsOf(int name) {
      return at(sizes, name);
    }

    /** The name in a pair. */
    int lower(int name, int place) {
      return at(pairs, name * MOST_PAIRS + place) & 15;
    }

    /** The condition in a pair. */
    int promise(int name, int place) {
      return at(pairs, name * MOST_PAIRS + place) >> 4;
    }

    int height(int name) {
      return at(heights, name);
    }

    boolean hasPair(int name, int lower, int condition) {
      for (int k = 0; k < pairsOf(name); k++) {
        if (lower(name, k) == lower && promise(name, k) == condition) {
          return true;
        }
      }
      return false;
    }

    int add() {
      int name = count;
      count++;
      changed();
      return name;
    }

    void addPair(int name, int lower, int condition) {
      int place = pairsOf(name);
      if (place < MOST_PAIRS) {
        put(pairs, name * MOST_PAIRS + place, lower + 16 * condition);
        put(sizes, name, place + 1);
        changed();
      }
    }

    void dropPair(int name) {
      put(sizes, name, Math.max(0, pairsOf(name) - 1));
      changed();
    }

    private void changed() {
      changes++;
      rankAll(heights, NONE, NONE);
    }

    /** Ranks all names as if one had one more pair. Names in pairs are lower, so ranked ahead. */
    private void rankAll(int[] row, int name, int lower) {
      for (int n = 0; n < count; n++) {
        int height = n == name ? 1 + at(row, lower) : 0;
        for (int k = 0; k < pairsOf(n); k++) {
          height = Math.max(height, 1 + at(row, lower(n, k)));
        }
        put(row, n, height);
      }
    }

    boolean wouldRiseTooHigh(int name, int lower) {
      rankAll(trial, name, lower);
      for (int n = 0; n < count; n++) {
        if (at(trial, n) > MOST_RANK) {
          return true;
        }
      }
      return false;
    }

    int standardOf(int code) {
      return at(standards, code) - 1;
    }

    boolean isStandard(int name) {
      for (int code = 0; code < CODES; code++) {
        if (standardOf(code) == name) {
          return true;
        }
      }
      return false;
    }

    /** The codes that the standard name of a code needs and that have none, itself too, as bits. */
    int missingFor(int code) {
      int needed = 1 << code;
      int missing = 0;
      for (int c = code; c >= 0; c--) {
        if (contains(needed, c)) {
          // A code is the set of its elements' codes, and those are lower.
          needed |= c;
          if (standardOf(c) == NONE) {
            missing |= 1 << c;
          }
        }
      }
      return missing;
    }

    void addStandard(int code) {
      int name = add();
      put(standards, code, name + 1);
      for (int element = 0; element < MOST_PAIRS; element++) {
        if (contains(code, element)) {
          addPair(name, standardOf(element), 0);
        }
      }
    }

    /** Drafts the pairs of a mixture; returns how many, or more than 4 if it is refused. */
    int draft(int name, int condition, int other, int second) {
      int size = draftPart(0, name, condition);
      return size > MOST_PAIRS ? size : draftPart(size, other, second);
    }

    private int draftPart(int start, int name, int condition) {
      int size = start;
      for (int k = 0; k < pairsOf(name); k++) {
        int below = order.down(condition) & order.down(promise(name, k));
        for (int p = 0; p < order.size(); p++) {
          int pair = lower(name, k) + 16 * p;
          if (contains(below, p) && !isDrafted(size, pair)) {
            if (size >= MOST_PAIRS) {
              return MOST_PAIRS + 1;
            }
            put(drafted, size, pair);
            size++;
          }
        }
      }
      return size;
    }

    private boolean isDrafted(int size, int pair) {
      for (int k = 0; k < size; k++) {
        if (at(drafted, k) == pair) {
          return true;
        }
      }
      return false;
    }

    int addDraft(int size) {
      int name = add();
      for (int k = 0; k < size; k++) {
        addPair(name, at(drafted, k) & 15, at(drafted, k) >> 4);
      }
      return name;
    }
  }

  /** The formulas: of two terms, of one or two formulas, or of a bound and a formula. */
  private static final class Formulas {
    private int count;
    private final int[] kinds = new int[MOST_FORMULAS];
    private final int[] firsts = new int[MOST_FORMULAS];
    private final int[] seconds = new int[MOST_FORMULAS];
    private final int[] letters = new int[MOST_FORMULAS];
    private final int[] depths = new int[MOST_FORMULAS];
    private final int[] opens = new int[MOST_FORMULAS];

    int size() {
      return count;
    }

    boolean knows(int formula) {
      return formula >= 0 && formula < count;
    }

    int add(int kind, int first, int second, int letter, int depth, int open) {
      int formula = count;
      put(kinds, formula, kind);
      put(firsts, formula, first);
      put(seconds, formula, second);
      put(letters, formula, letter);
      put(depths, formula, depth);
      put(opens, formula, open);
      count++;
      return formula;
    }

    int removeAll() {
      int were = count;
      count = 0;
      return were;
    }

    int kind(int formula) {
      return at(kinds, formula);
    }

    /** The first term or formula, or the bound. */
    int first(int formula) {
      return at(firsts, formula);
    }

    /** The second term or formula, or the formula in which the letter is bound. */
    int second(int formula) {
      return at(seconds, formula);
    }

    int letter(int formula) {
      return at(letters, formula);
    }

    int depth(int formula) {
      return at(depths, formula);
    }

    /** The free letters. */
    int open(int formula) {
      return at(opens, formula);
    }
  }

  /** A way to judge formulas by the set of all worlds, or all conditions, for which they are so. */
  private abstract static class Way {
    final Order order;
    private final Names names;
    private final Formulas formulas;
    private final int[] likes = new int[MOST_NAMES * MOST_NAMES];
    private final int[] insides = new int[MOST_NAMES * MOST_NAMES];
    private final int[] letters = new int[LETTERS];
    private int seen;

    Way(Order order, Names names, Formulas formulas) {
      this.order = order;
      this.names = names;
      this.formulas = formulas;
    }

    /** What is so of anything that is always so. */
    abstract int whole();

    /** What is so of a thing's not being so. */
    abstract int denied(int set);

    /** What is so of a condition and a thing. */
    abstract int along(int condition, int set);

    /** What is so of a thing wherever a condition is. */
    abstract int unless(int condition, int set);

    /** What is so of some of several things, of which one or another is so in the set. */
    abstract int settled(int set);

    int alike(int name, int other) {
      refresh();
      return at(likes, name * MOST_NAMES + other);
    }

    int inside(int name, int other) {
      refresh();
      return at(insides, name * MOST_NAMES + other);
    }

    int judge(int formula) {
      refresh();
      return judged(formula, 1);
    }

    private int judged(int formula, int deep) {
      if (deep > MOST_DEPTH || !formulas.knows(formula)) {
        return 0;
      }
      int first = formulas.first(formula);
      int second = formulas.second(formula);
      switch (formulas.kind(formula)) {
        case 'e':
          return at(insides, named(first) * MOST_NAMES + named(second));
        case '=':
          return at(likes, named(first) * MOST_NAMES + named(second));
        case 'a':
          return judged(first, deep + 1) & judged(second, deep + 1);
        case 'o':
          return settled(judged(first, deep + 1) | judged(second, deep + 1));
        case 'n':
          return denied(judged(first, deep + 1));
        default:
          return judgedBound(formula, deep);
      }
    }

    private int judgedBound(int formula, int deep) {
      int bound = named(formulas.first(formula));
      int letter = formulas.letter(formula);
      int kept = at(letters, letter);
      int each = whole();
      int some = 0;
      for (int k = 0; k < names.pairsOf(bound); k++) {
        put(letters, letter, names.lower(bound, k));
        int part = judged(formulas.second(formula), deep + 1);
        each &= unless(names.promise(bound, k), part);
        some |= along(names.promise(bound, k), part);
      }
      put(letters, letter, kept);
      return formulas.kind(formula) == 'A' ? each : settled(some);
    }

    private int named(int term) {
      return isLetter(term) ? at(letters, term - FIRST_LETTER) : term;
    }

    /** Judges all pairs of names anew, if names or conditions have changed. */
    private void refresh() {
      int now = order.changes() + names.changes();
      if (seen == now) {
        return;
      }
      seen = now;
      // What is asked of two names rests on pairs of names with a lower sum of numbers.
      for (int sum = 0; sum <= 2 * (names.size() - 1); sum++) {
        for (int n = Math.max(0, sum - names.size() + 1); n < names.size() && n <= sum; n++) {
          put(likes, n * MOST_NAMES + sum - n, partly(n, sum - n) & partly(sum - n, n));
          put(insides, n * MOST_NAMES + sum - n, contained(n, sum - n));
        }
      }
    }

    /** What is so of all in the first name being in the second one. */
    private int partly(int name, int other) {
      int each = whole();
      for (int k = 0; k < names.pairsOf(name); k++) {
        int part = at(insides, names.lower(name, k) * MOST_NAMES + other);
        each &= unless(names.promise(name, k), part);
      }
      return each;
    }

    private int contained(int name, int other) {
      int some = 0;
      for (int k = 0; k < names.pairsOf(other); k++) {
        int part = at(likes, name * MOST_NAMES + names.lower(other, k));
        some |= along(names.promise(other, k), part);
      }
      return settled(some);
    }
  }

  /** Judges by values, which are sets of last conditions. */
  private static final class Valued extends Way {
    Valued(Order order, Names names, Formulas formulas) {
      super(order, names, formulas);
    }

    int whole() {
      return order.ends();
    }

    int denied(int set) {
      return order.ends() & ~set;
    }

    int along(int condition, int set) {
      return order.endsOf(condition) & set;
    }

    int unless(int condition, int set) {
      return order.ends() & ~order.endsOf(condition) | set;
    }

    int settled(int set) {
      return set;
    }
  }

  /** Judges by weak forcing: sets of the conditions that force, 'some' asked of each itself. */
  private static class Weak extends Way {
    Weak(Order order, Names names, Formulas formulas) {
      super(order, names, formulas);
    }

    final int whole() {
      return order.all();
    }

    final int denied(int set) {
      return order.avoiding(set);
    }

    final int along(int condition, int set) {
      return order.down(condition) & set;
    }

    final int unless(int condition, int set) {
      int forcing = 0;
      for (int p = 0; p < order.size(); p++) {
        if (isPart(order.down(p) & order.down(condition), set)) {
          forcing |= 1 << p;
        }
      }
      return forcing;
    }

    int settled(int set) {
      return set;
    }
  }

  /** Judges by forcing, which is weak forcing but for 'some', asked below each condition below. */
  private static final class Forced extends Weak {
    Forced(Order order, Names names, Formulas formulas) {
      super(order, names, formulas);
    }

    int settled(int set) {
      // To avoid those that avoid the set: below each condition below there is one of it.
      return order.avoiding(order.avoiding(set));
    }
  }

  /** What names become, and what is so of that, in one world at a time. */
  private static final class World {
    private final Order order;
    private final Names names;
    private final Formulas formulas;
    private final int[] codes = new int[MOST_NAMES];
    private final int[] letters = new int[LETTERS];

    World(Order order, Names names, Formulas formulas) {
      this.order = order;
      this.names = names;
      this.formulas = formulas;
    }

    /** Finds what all names become in a world, each moved by the map if so asked. */
    void enter(int world, boolean isMoved) {
      for (int n = 0; n < names.size(); n++) {
        int code = 0;
        for (int k = 0; k < names.pairsOf(n); k++) {
          int promise = names.promise(n, k);
          if (order.stands(world, isMoved ? order.image(promise) : promise)) {
            code |= 1 << codeOf(names.lower(n, k));
          }
        }
        put(codes, n, code);
      }
    }

    int codeOf(int name) {
      return at(codes, name);
    }

    /** Tells whether a formula is so in the world entered. */
    boolean agrees(int formula) {
      return isSo(formula, 1);
    }

    /** Enters each world in turn; returns those in which a formula is so. */
    int worldsOf(int formula) {
      int worlds = order.ends();
      int agreeing = 0;
      for (int world = 0; world < order.size(); world++) {
        if (contains(worlds, world)) {
          enter(world, false);
          agreeing |= agrees(formula) ? 1 << world : 0;
        }
      }
      return agreeing;
    }

    private boolean isSo(int formula, int deep) {
      if (deep > MOST_DEPTH || !formulas.knows(formula)) {
        return false;
      }
      int first = formulas.first(formula);
      int second = formulas.second(formula);
      switch (formulas.kind(formula)) {
        case 'e':
          return contains(meant(second), meant(first));
        case '=':
          return meant(first) == meant(second);
        case 'a':
          return isSo(first, deep + 1) && isSo(second, deep + 1);
        case 'o':
          return isSo(first, deep + 1) || isSo(second, deep + 1);
        case 'n':
          return !isSo(first, deep + 1);
        default:
          return isBoundSo(formula, deep);
      }
    }

    private boolean isBoundSo(int formula, int deep) {
      int bound = meant(formulas.first(formula));
      int letter = formulas.letter(formula);
      int kept = at(letters, letter);
      boolean each = formulas.kind(formula) == 'A';
      boolean is = each;
      for (int element = 0; element < CODES && is == each; element++) {
        if (contains(bound, element)) {
          put(letters, letter, element);
          is = isSo(formulas.second(formula), deep + 1);
        }
      }
      put(letters, letter, kept);
      return is;
    }

    /** The code of what a term stands for. */
    private int meant(int term) {
      return isLetter(term) ? at(letters, term - FIRST_LETTER) : at(codes, term);
    }
  }
}
