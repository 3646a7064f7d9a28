import java.util.ArrayList;
import java.util.HashMap;
import java.util.List;
import java.util.Map;
import java.util.NoSuchElementException;
import java.util.function.BooleanSupplier;
import java.util.function.IntPredicate;

/** The document's words, one condition at a time, without any care for speed. */
final class Model {
  private final boolean[][] below = new boolean[7][7];
  int conditions;
  final List<List<int[]>> names = new ArrayList<>();
  private final int[] standards = new int[16];
  final List<int[]> formulas = new ArrayList<>();
  private final int[] map = new int[7];
  private final Map<String, Boolean> known = new HashMap<>();

  Model() {
    java.util.Arrays.fill(standards, -1);
  }

  private void index(boolean is) {
    if (!is) throw new IndexOutOfBoundsException();
  }

  private void argument(boolean is) {
    if (!is) throw new IllegalArgumentException();
  }

  private void operation(boolean is) {
    if (!is) throw new UnsupportedOperationException();
  }

  private void state(boolean is) {
    if (!is) throw new IllegalStateException();
  }

  private boolean isCondition(int p) {
    return 0 <= p && p < conditions;
  }

  private boolean isName(int n) {
    return 0 <= n && n < names.size();
  }

  boolean isFormula(int f) {
    return 0 <= f && f < formulas.size();
  }

  private boolean some(IntPredicate what) {
    for (int p = 0; p < conditions; p++) if (what.test(p)) return true;
    return false;
  }

  private boolean each(IntPredicate what) {
    return !some(what.negate());
  }

  private int those(IntPredicate what) {
    int bits = 0;
    for (int p = 0; p < conditions; p++) if (what.test(p)) bits += 1 << p;
    return bits;
  }

  private static boolean in(int set, int p) {
    return (set & 1 << p) != 0;
  }

  int up(int p) {
    return those(q -> below[p][q]);
  }

  boolean isLast(int p) {
    return isCondition(p) && each(q -> q == p || !below[q][p]);
  }

  // conditions

  public int condition() {
    state(conditions < 7);
    below[conditions][conditions] = true;
    map[conditions] = conditions;
    return conditions++;
  }

  public int under(int p, int q) {
    index(isCondition(p) && isCondition(q));
    operation(p != q && !below[p][q] && !below[q][p]);
    below[p][q] = true;
    for (int b = 0; b < 7; b++)
      for (int a = 0; a < 7; a++)
        for (int c = 0; c < 7; c++) if (below[a][b] && below[b][c]) below[a][c] = true;
    int pairs = 0;
    for (int a = 0; a < 7; a++) for (int b = 0; b < 7; b++) if (a != b && below[a][b]) pairs++;
    return pairs;
  }

  public boolean isBelow(int p, int q) {
    index(isCondition(p) && isCondition(q));
    return below[p][q];
  }

  public boolean fit(int p, int q) {
    index(isCondition(p) && isCondition(q));
    return some(r -> below[r][p] && below[r][q]);
  }

  public int lasts() {
    return those(this::isLast);
  }

  private void set(int set) {
    argument(set >= 0 && set < 1 << conditions);
  }

  public boolean isAntichain(int set) {
    set(set);
    return each(p -> each(q -> p == q || !in(set, p) || !in(set, q) || !fit(p, q)));
  }

  public int widest() {
    int most = 0;
    for (int set = 0; set < 1 << conditions; set++)
      if (isAntichain(set)) most = Math.max(most, Integer.bitCount(set));
    return most;
  }

  public boolean isDense(int set) {
    set(set);
    return each(p -> some(q -> below[q][p] && in(set, q)));
  }

  public boolean isFilter(int set) {
    set(set);
    return set != 0
        && each(p -> !in(set, p) || each(q -> !below[p][q] || in(set, q)))
        && each(p -> each(q -> !in(set, p) || !in(set, q)
            || some(r -> in(set, r) && below[r][p] && below[r][q])));
  }

  public int filters() {
    int count = 0;
    for (int set = 0; set < 1 << conditions; set++) if (isFilter(set)) count++;
    return count;
  }

  public boolean isSeparative() {
    return each(p -> each(q -> below[p][q] || some(r -> below[r][p] && !fit(r, q))));
  }

  public int cut(int p) {
    index(isCondition(p));
    return those(q -> isLast(q) && below[q][p]);
  }

  public int closure(int set) {
    set(set);
    return those(p -> each(l -> !isLast(l) || !below[l][p] || some(q -> in(set, q) && below[l][q])));
  }

  public int filterOf(int world) {
    argument(isLast(world));
    return up(world);
  }

  // names

  public int name() {
    state(names.size() < 12);
    names.add(new ArrayList<>());
    return names.size() - 1;
  }

  private boolean isStandard(int n) {
    for (int other : standards) if (other == n) return true;
    return false;
  }

  private int height(int n) {
    int most = 0;
    for (int[] pair : names.get(n)) most = Math.max(most, 1 + height(pair[0]));
    return most;
  }

  private boolean isTooHigh() {
    for (int n = 0; n < names.size(); n++) if (height(n) > 3) return true;
    return false;
  }

  private boolean has(List<int[]> pairs, int lower, int p) {
    for (int[] pair : pairs) if (pair[0] == lower && pair[1] == p) return true;
    return false;
  }

  public int pair(int n, int lower, int p) {
    index(isName(n) && isName(lower) && isCondition(p));
    argument(lower < n);
    List<int[]> pairs = names.get(n);
    operation(!isStandard(n) && !has(pairs, lower, p));
    pairs.add(new int[] {lower, p});
    boolean refused = isTooHigh();
    boolean full = pairs.size() > 4;
    if (refused || full) pairs.remove(pairs.size() - 1);
    operation(!refused);
    state(!full);
    return pairs.size();
  }

  public int unpair(int n) {
    index(isName(n));
    operation(!isStandard(n) && !names.get(n).isEmpty());
    names.get(n).remove(names.get(n).size() - 1);
    return names.get(n).size();
  }

  public int rank(int n) {
    index(isName(n));
    return height(n);
  }

  public int standard(int code) {
    argument(0 <= code && code <= 15);
    operation(conditions > 0 && each(p -> below[p][0]));
    int before = names.size();
    int[] kept = standards.clone();
    int made = make(code);
    if (names.size() > 12) {
      while (names.size() > before) names.remove(names.size() - 1);
      System.arraycopy(kept, 0, standards, 0, 16);
      state(false);
    }
    return made;
  }

  private int make(int code) {
    if (standards[code] >= 0) return standards[code];
    List<int[]> pairs = new ArrayList<>();
    for (int element = 0; element < 4; element++)
      if (in(code, element)) pairs.add(new int[] {make(element), 0});
    names.add(pairs);
    standards[code] = names.size() - 1;
    return standards[code];
  }

  private int code(int n, int world, boolean moved) {
    int code = 0;
    for (int[] pair : names.get(n))
      if (below[world][moved ? map[pair[1]] : pair[1]]) code |= 1 << code(pair[0], world, moved);
    return code;
  }

  public int becomes(int n, int world) {
    index(isName(n));
    argument(isLast(world));
    return code(n, world, false);
  }

  private int valuedIn(int a, int b) {
    int value = 0;
    for (int[] pair : names.get(b)) value |= cut(pair[1]) & valuedLike(a, pair[0]);
    return value;
  }

  private int valuedLike(int a, int b) {
    int value = lasts();
    for (int[] pair : names.get(a)) value &= ~cut(pair[1]) | valuedIn(pair[0], b);
    for (int[] pair : names.get(b)) value &= ~cut(pair[1]) | valuedIn(pair[0], a);
    return value;
  }

  public int valueIn(int a, int b) {
    index(isName(a) && isName(b));
    return valuedIn(a, b);
  }

  public int valueLike(int a, int b) {
    index(isName(a) && isName(b));
    return valuedLike(a, b);
  }

  private boolean once(String key, BooleanSupplier what) {
    Boolean is = known.get(key);
    if (is == null) {
      is = what.getAsBoolean();
      known.put(key, is);
    }
    return is;
  }

  private boolean hasBelow(boolean weak, int p, IntPredicate what) {
    return weak ? what.test(p) : each(q -> !below[q][p] || some(r -> below[r][q] && what.test(r)));
  }

  private boolean forcedIn(boolean weak, int p, int a, int b) {
    return once("e" + weak + p + "," + a + "," + b, () -> hasBelow(weak, p, r -> {
      for (int[] pair : names.get(b))
        if (below[r][pair[1]] && forcedLike(weak, r, a, pair[0])) return true;
      return false;
    }));
  }

  private boolean forcedLike(boolean weak, int p, int a, int b) {
    return once("=" + weak + p + "," + a + "," + b, () -> each(q -> {
      if (!below[q][p]) return true;
      for (int[] pair : names.get(a))
        if (below[q][pair[1]] && !forcedIn(weak, q, pair[0], b)) return false;
      for (int[] pair : names.get(b))
        if (below[q][pair[1]] && !forcedIn(weak, q, pair[0], a)) return false;
      return true;
    }));
  }

  public boolean forcesIn(int p, int a, int b) {
    index(isCondition(p) && isName(a) && isName(b));
    known.clear();
    return forcedIn(false, p, a, b);
  }

  public boolean forcesLike(int p, int a, int b) {
    index(isCondition(p) && isName(a) && isName(b));
    known.clear();
    return forcedLike(false, p, a, b);
  }

  public int mix(int a, int p, int b, int q) {
    index(isCondition(p) && isCondition(q) && isName(a) && isName(b));
    operation(!fit(p, q));
    List<int[]> pairs = new ArrayList<>();
    for (int side = 0; side < 2; side++)
      for (int[] pair : names.get(side == 0 ? a : b))
        for (int r = 0; r < conditions; r++)
          if (below[r][pair[1]] && below[r][side == 0 ? p : q] && !has(pairs, pair[0], r))
            pairs.add(new int[] {pair[0], r});
    operation(pairs.size() <= 4);
    state(names.size() < 12);
    names.add(pairs);
    return names.size() - 1;
  }

  // formulas: kind, first, second, letter

  private boolean isTerm(int term) {
    return isName(term) || 100 <= term && term <= 103;
  }

  private int depth(int f) {
    int[] it = formulas.get(f);
    switch (it[0]) {
      case 'e': case '=': return 1;
      case 'a': case 'o': return 1 + Math.max(depth(it[1]), depth(it[2]));
      case 'n': return 1 + depth(it[1]);
      default: return 1 + depth(it[2]);
    }
  }

  private int add(int... it) {
    formulas.add(it);
    return formulas.size() - 1;
  }

  public int atom(char kind, int a, int b) {
    argument(kind == 'e' || kind == '=');
    argument(isTerm(a) && isTerm(b));
    state(formulas.size() < 16);
    return add(kind, a, b);
  }

  public int both(char kind, int f, int g) {
    index(isFormula(f) && isFormula(g));
    argument(kind == 'a' || kind == 'o');
    operation(depth(f) < 5 && depth(g) < 5);
    state(formulas.size() < 16);
    return add(kind, f, g);
  }

  public int not(int f) {
    index(isFormula(f));
    operation(depth(f) < 5);
    state(formulas.size() < 16);
    return add('n', f);
  }

  public int bind(char kind, int letter, int bound, int f) {
    index(isFormula(f));
    argument(kind == 'A' || kind == 'E');
    argument(0 <= letter && letter <= 3 && isTerm(bound));
    operation(depth(f) < 5);
    state(formulas.size() < 16);
    return add(kind, bound, f, letter);
  }

  private boolean isFree(int letter, int f) {
    int[] it = formulas.get(f);
    switch (it[0]) {
      case 'e': case '=': return it[1] == 100 + letter || it[2] == 100 + letter;
      case 'a': case 'o': return isFree(letter, it[1]) || isFree(letter, it[2]);
      case 'n': return isFree(letter, it[1]);
      default: return it[1] == 100 + letter || it[3] != letter && isFree(letter, it[2]);
    }
  }

  int open(int f) {
    int bits = 0;
    for (int letter = 0; letter < 4; letter++) if (isFree(letter, f)) bits += 1 << letter;
    return bits;
  }

  public int free(int f) {
    index(isFormula(f));
    return open(f);
  }

  private static int stands(int term, int[] letters) {
    return term >= 100 ? letters[term - 100] : term;
  }

  private static int[] with(int[] letters, int letter, int what) {
    int[] row = letters.clone();
    row[letter] = what;
    return row;
  }

  private static int[] none() {
    return new int[] {-1, -1, -1, -1};
  }

  private int valued(int f, int[] letters) {
    int[] it = formulas.get(f);
    switch (it[0]) {
      case 'e': return valuedIn(stands(it[1], letters), stands(it[2], letters));
      case '=': return valuedLike(stands(it[1], letters), stands(it[2], letters));
      case 'a': return valued(it[1], letters) & valued(it[2], letters);
      case 'o': return valued(it[1], letters) | valued(it[2], letters);
      case 'n': return lasts() & ~valued(it[1], letters);
      default:
    }
    int all = lasts();
    int any = 0;
    for (int[] pair : names.get(stands(it[1], letters))) {
      int part = valued(it[2], with(letters, it[3], pair[0]));
      all &= ~cut(pair[1]) | part;
      any |= cut(pair[1]) & part;
    }
    return it[0] == 'A' ? all : any;
  }

  private boolean forced(boolean weak, int p, int f, int[] letters) {
    return once("f" + weak + p + "," + f + java.util.Arrays.toString(letters),
        () -> forcedNew(weak, p, f, letters));
  }

  private boolean forcedNew(boolean weak, int p, int f, int[] letters) {
    int[] it = formulas.get(f);
    switch (it[0]) {
      case 'e': return forcedIn(weak, p, stands(it[1], letters), stands(it[2], letters));
      case '=': return forcedLike(weak, p, stands(it[1], letters), stands(it[2], letters));
      case 'a': return forced(weak, p, it[1], letters) && forced(weak, p, it[2], letters);
      case 'o': return hasBelow(weak, p,
          r -> forced(weak, r, it[1], letters) || forced(weak, r, it[2], letters));
      case 'n': return !some(q -> below[q][p] && forced(weak, q, it[1], letters));
      default:
    }
    List<int[]> bound = names.get(stands(it[1], letters));
    if (it[0] == 'A') {
      return each(q -> {
        for (int[] pair : bound)
          if (below[q][p] && below[q][pair[1]]
              && !forced(weak, q, it[2], with(letters, it[3], pair[0]))) return false;
        return true;
      });
    }
    return hasBelow(weak, p, r -> {
      for (int[] pair : bound)
        if (below[r][pair[1]] && forced(weak, r, it[2], with(letters, it[3], pair[0]))) return true;
      return false;
    });
  }

  private int meant(int term, int[] letters, int world) {
    return term >= 100 ? letters[term - 100] : code(term, world, false);
  }

  private boolean so(int f, int world, int[] letters) {
    int[] it = formulas.get(f);
    switch (it[0]) {
      case 'e': return in(meant(it[2], letters, world), meant(it[1], letters, world));
      case '=': return meant(it[2], letters, world) == meant(it[1], letters, world);
      case 'a': return so(it[1], world, letters) && so(it[2], world, letters);
      case 'o': return so(it[1], world, letters) || so(it[2], world, letters);
      case 'n': return !so(it[1], world, letters);
      default:
    }
    int bound = meant(it[1], letters, world);
    for (int element = 0; element < 16; element++)
      if (in(bound, element) && so(it[2], world, with(letters, it[3], element)) == (it[0] == 'E'))
        return it[0] == 'E';
    return it[0] == 'A';
  }

  private void closed(int f) {
    index(isFormula(f));
    operation(open(f) == 0);
    known.clear();
  }

  public int value(int f) {
    closed(f);
    return valued(f, none());
  }

  public boolean forces(int p, int f) {
    index(isCondition(p));
    closed(f);
    return forced(false, p, f, none());
  }

  public boolean weakly(int p, int f) {
    index(isCondition(p));
    closed(f);
    return forced(true, p, f, none());
  }

  public boolean holds(int f, int world) {
    closed(f);
    argument(isLast(world));
    return so(f, world, none());
  }

  public int against(int f) {
    closed(f);
    for (int world = 0; world < conditions; world++)
      if (isLast(world) && !so(f, world, none())) return world;
    throw new NoSuchElementException();
  }

  // maps and sums

  boolean keeps() {
    return each(p -> each(q -> below[p][q] == below[map[p]][map[q]]));
  }

  public boolean swap(int p, int q) {
    index(isCondition(p) && isCondition(q));
    int kept = map[p];
    map[p] = map[q];
    map[q] = kept;
    return keeps();
  }

  public int goes(int p) {
    index(isCondition(p));
    return map[p];
  }

  public boolean isFixed(int n) {
    index(isName(n));
    operation(keeps());
    return each(w -> !isLast(w) || code(n, w, false) == code(n, w, true));
  }

  public int clear() {
    int were = formulas.size();
    formulas.clear();
    return were;
  }

  public long checksum() {
    long sum = 7;
    for (int p = 0; p < conditions; p++) {
      int top = p;
      sum = sum * 31 + those(q -> below[q][top]);
    }
    for (int n = 0; n < names.size(); n++) {
      sum = sum * 31 + height(n);
      for (int[] pair : names.get(n)) sum = sum * 31 + pair[0] + 16 * pair[1];
    }
    return sum * 31 + formulas.size();
  }

  public float lastShare() {
    if (conditions == 0) throw new NoSuchElementException();
    return (float) Integer.bitCount(lasts()) / (float) conditions;
  }

  public double meanRank() {
    if (names.isEmpty()) throw new NoSuchElementException();
    double sum = 0;
    for (int n = 0; n < names.size(); n++) sum += height(n);
    return sum / names.size();
  }

  public boolean isSound() {
    known.clear();
    for (int f = 0; f < formulas.size(); f++) {
      if (open(f) != 0) continue;
      int formula = f;
      int value = valued(f, none());
      if (!each(p -> forced(false, p, formula, none()) == ((cut(p) & ~value) == 0))) return false;
      if (!each(w -> !isLast(w) || in(value, w) == so(formula, w, none()))) return false;
    }
    for (int a = 0; a < names.size(); a++)
      for (int b = 0; b < names.size(); b++) {
        int n = a;
        int m = b;
        int like = valuedLike(a, b);
        if (!each(w -> !in(like, w) || code(n, w, false) == code(m, w, false))) return false;
      }
    return true;
  }
}
