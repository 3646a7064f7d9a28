/**
 * If several exceptions apply, the one that is listed first is thrown, and nothing is changed: for each call
 * that lists several, each two of them that can apply at once.
 */
public final class OrderOfThrows {
  private static final int NO = 99;
  private static final char NO_KIND = 'x';
  private static final Due.Recipe NONE = Due.nothing();
  /** 0 above 1 and 2, which do not fit. */
  private static final Due.Recipe FORK = Due.order(3, 1, 0, 2, 0);
  /** Standard names 0 to 4, of the codes 0, 1, 2, 3 and 15, so that 4 has 4 pairs. */
  private static final Due.Recipe STANDARDS = Due.of(FORK, Due.standards(15));
  /** Names up to 4, of which 1 has 4 pairs; 2, 3 and 4 are of the ranks 1, 2 and 3. */
  private static final Due.Recipe FULL =
      Due.of(Due.order(4, 1, 0, 2, 0, 3, 0), Due.names(5), Due.pairs(1, 0, 0, 0, 1, 0, 2, 0, 3),
          Due.pairs(2, 0, 0), Due.pairs(3, 2, 0), Due.pairs(4, 3, 0));
  /** Names up to 6: 3, 4 and 5 are of the ranks 1, 2 and 3, and 6 has 4 pairs. */
  private static final Due.Recipe FULL_AND_HIGH =
      Due.of(Due.order(4, 1, 0, 2, 0, 3, 0), Due.names(7), Due.pairs(3, 0, 0), Due.pairs(4, 3, 0),
          Due.pairs(5, 4, 0), Due.pairs(6, 0, 0, 0, 1, 0, 2, 0, 3));
  private static final Due.Recipe TWELVE = Due.of(FORK, Due.names(12));
  /** Names up to 11; a mixture of 1 with itself by 1 and 2 would have 6 pairs. */
  private static final Due.Recipe TWELVE_WIDE = Due.of(Due.order(7, 1, 0, 2, 0, 3, 1, 4, 1, 5, 2, 6, 2),
      Due.names(12), Due.pairs(1, 0, 0));
  /** Formulas: 0 is closed, 1 has a free letter, 2 to 5 are deeper and deeper, 5 of the depth 5. */
  private static final Due.Recipe DEEP = Due.of(FORK, Due.names(2), OrderOfThrows::deep);
  private static final Due.Recipe SIXTEEN = Due.of(DEEP, OrderOfThrows::fill);

  private static void deep(Genericwood x) {
    x.atom('e', 0, 1);
    x.atom('=', 100, 1);
    for (int f = 1; f < 5; f++) x.not(f);
  }

  private static void fill(Genericwood x) {
    for (int f = 6; f < 16; f++) x.atom('=', 0, 0);
  }

  private static void index(int promise, String over, Due.Recipe wood, Due.Call call) {
    Due.refused(promise, "no such number, over " + over, wood, call, Due.INDEX);
  }

  private static void argument(int promise, String over, Due.Recipe wood, Due.Call call) {
    Due.refused(promise, "an argument, over " + over, wood, call, Due.ARGUMENT);
  }

  private static void operation(int promise, String over, Due.Recipe wood, Due.Call call) {
    Due.refused(promise, "an operation, over " + over, wood, call, Due.OPERATION);
  }

  private static void under() {
    index(3, "both being the same", FORK, x -> x.under(3, 3));
    index(3, "both being the same", NONE, x -> x.under(0, 0));
  }

  private static void pair() {
    index(17, "no lower number", FULL, x -> x.pair(1, 2, 4));
    index(17, "no lower number", FULL, x -> x.pair(1, NO, 0));
    index(17, "no lower number", FULL, x -> x.pair(-1, 0, 0));
    index(17, "a standard name", STANDARDS, x -> x.pair(4, 0, NO));
    index(17, "a standard name", STANDARDS, x -> x.pair(1, -1, 0));
    index(17, "a rank above 3", FULL_AND_HIGH, x -> x.pair(6, 5, 4));
    index(17, "4 pairs", FULL, x -> x.pair(1, 0, 4));
    index(17, "4 pairs", FULL, x -> x.pair(1, -1, 0));
    argument(17, "a standard name", STANDARDS, x -> x.pair(1, 2, 0));
    argument(17, "a standard name", STANDARDS, x -> x.pair(2, 2, 0));
    argument(17, "a rank above 3", FULL, x -> x.pair(2, 4, 0));
    argument(17, "4 pairs", FULL, x -> x.pair(1, 1, 0));
    argument(17, "4 pairs", FULL, x -> x.pair(1, 2, 0));
    operation(17, "4 pairs: a standard name", STANDARDS, x -> x.pair(4, 0, 1));
    operation(17, "4 pairs: the pair is there", FULL, x -> x.pair(1, 0, 3));
    operation(17, "4 pairs: its rank above 3", FULL_AND_HIGH, x -> x.pair(6, 5, 0));
    operation(17, "4 pairs: another one's rank above 3",
        Due.of(FULL_AND_HIGH, Due.pairs(2, 0, 0), Due.pairs(3, 0, 1, 0, 2, 0, 3)), x -> x.pair(3, 2, 0));
  }

  private static void unpair() {
    index(18, "having no pairs", FULL, x -> x.unpair(-1));
    index(18, "having no pairs", FULL, x -> x.unpair(5));
    index(18, "having no pairs", NONE, x -> x.unpair(0));
  }

  private static void standard() {
    for (int no : new int[] {-1, 16}) {
      argument(20, "no condition 0", NONE, x -> x.standard(no));
      argument(20, "a condition 0 not above all", Due.order(2), x -> x.standard(no));
      argument(20, "12 names", TWELVE, x -> x.standard(no));
    }
    operation(20, "12 names: no condition 0", Due.names(12), x -> x.standard(0));
    operation(20, "12 names: a condition 0 not above all", Due.of(TWELVE, Due.order(1)), x -> x.standard(0));
    operation(20, "too few left: a condition 0 not above all", Due.of(FORK, Due.names(8), Due.order(1)),
        x -> x.standard(15));
  }

  private static void becomes() {
    index(21, "no last condition", TWELVE, x -> x.becomes(12, 0));
    index(21, "no condition", NONE, x -> x.becomes(0, 0));
  }

  private static void mix() {
    index(26, "conditions that fit", FULL, x -> x.mix(1, 0, NO, 0));
    index(26, "conditions that fit", FULL, x -> x.mix(-1, 1, 1, 0));
    index(26, "too many pairs", TWELVE_WIDE, x -> x.mix(1, 1, 12, 2));
    index(26, "12 names", TWELVE, x -> x.mix(12, 1, 0, 2));
    index(26, "12 names", TWELVE, x -> x.mix(0, 1, 0, 3));
    index(26, "12 names", TWELVE, x -> x.mix(0, -1, 0, 2));
    operation(26, "12 names: conditions that fit", TWELVE, x -> x.mix(0, 0, 0, 2));
    operation(26, "12 names: too many pairs", TWELVE_WIDE, x -> x.mix(1, 1, 1, 2));
  }

  private static void atom() {
    argument(27, "16 formulas", SIXTEEN, x -> x.atom(NO_KIND, 0, 0));
    argument(27, "16 formulas", SIXTEEN, x -> x.atom('e', 2, 0));
    argument(27, "16 formulas", SIXTEEN, x -> x.atom('=', 0, 104));
  }

  private static void both() {
    index(28, "no such kind", DEEP, x -> x.both(NO_KIND, 6, 0));
    index(28, "no such kind", DEEP, x -> x.both(NO_KIND, 0, -1));
    index(28, "a depth above 5", DEEP, x -> x.both('a', 5, 6));
    index(28, "a depth above 5", DEEP, x -> x.both('o', 6, 5));
    index(28, "16 formulas", SIXTEEN, x -> x.both('a', 16, 0));
    index(28, "16 formulas", SIXTEEN, x -> x.both('o', 0, 16));
    argument(28, "a depth above 5", DEEP, x -> x.both(NO_KIND, 5, 0));
    argument(28, "a depth above 5", DEEP, x -> x.both('n', 0, 5));
    argument(28, "16 formulas", SIXTEEN, x -> x.both(NO_KIND, 0, 0));
    operation(28, "16 formulas", SIXTEEN, x -> x.both('a', 5, 0));
    operation(28, "16 formulas", SIXTEEN, x -> x.both('o', 0, 5));
  }

  private static void not() {
    index(29, "16 formulas", SIXTEEN, x -> x.not(16));
    index(29, "16 formulas", SIXTEEN, x -> x.not(-1));
    operation(29, "16 formulas", SIXTEEN, x -> x.not(5));
  }

  private static void bind() {
    index(30, "no such kind", DEEP, x -> x.bind(NO_KIND, 0, 0, 6));
    index(30, "no such letter", DEEP, x -> x.bind('A', 4, 0, 6));
    index(30, "no such bound", DEEP, x -> x.bind('E', 0, 2, -1));
    index(30, "16 formulas", SIXTEEN, x -> x.bind('E', 0, 0, 16));
    argument(30, "a depth above 5: kind", DEEP, x -> x.bind('a', 0, 0, 5));
    argument(30, "a depth above 5: letter", DEEP, x -> x.bind('A', -1, 0, 5));
    argument(30, "a depth above 5: bound", DEEP, x -> x.bind('A', 0, 99, 5));
    argument(30, "16 formulas: kind", SIXTEEN, x -> x.bind('e', 0, 0, 0));
    argument(30, "16 formulas: letter", SIXTEEN, x -> x.bind('E', 100, 0, 0));
    argument(30, "16 formulas: bound", SIXTEEN, x -> x.bind('E', 0, 104, 0));
    operation(30, "16 formulas", SIXTEEN, x -> x.bind('A', 0, 0, 5));
  }

  private static void judgements() {
    index(33, "a formula not closed", DEEP, x -> x.forces(3, 1));
    index(33, "a formula not closed", DEEP, x -> x.forces(-1, 5));
    index(34, "a formula not closed", DEEP, x -> x.weakly(3, 1));
    index(34, "a formula not closed", DEEP, x -> x.weakly(-1, 5));
    index(35, "no last condition", DEEP, x -> x.holds(6, 0));
    index(35, "no last condition", DEEP, x -> x.holds(-1, NO));
    operation(35, "no last condition", DEEP, x -> x.holds(1, 0));
    operation(35, "no last condition", DEEP, x -> x.holds(5, -1));
    operation(36, "no world", y -> y.atom('=', 100, 100), x -> x.against(0));
    operation(36, "being so in every world", Due.of(DEEP, x -> x.both('o', 1, 2)), x -> x.against(6));
  }

  private static void isFixed() {
    Due.Recipe turned = Due.of(FULL, x -> x.swap(0, 1));
    index(39, "a map that does not keep the order", turned, x -> x.isFixed(5));
    index(39, "a map that does not keep the order", turned, x -> x.isFixed(-1));
  }

  public static void main(String[] args) {
    under();
    pair();
    unpair();
    standard();
    becomes();
    mix();
    atom();
    both();
    not();
    bind();
    judgements();
    isFixed();
    Due.close();
  }
}
