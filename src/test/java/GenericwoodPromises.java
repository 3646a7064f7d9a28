import java.util.NoSuchElementException;

/** At least one test for each promise of the document: ordinary inputs, edges and wrong inputs. */
public final class GenericwoodPromises {
  private static final Class<?> INDEX = IndexOutOfBoundsException.class;
  private static final Class<?> ARGUMENT = IllegalArgumentException.class;
  private static final Class<?> OPERATION = UnsupportedOperationException.class;
  private static final Class<?> STATE = IllegalStateException.class;
  private static final Class<?> NOTHING = NoSuchElementException.class;
  private static int wrong = 0;

  private interface Call {
    Object answer();
  }

  /** What a call answers is due; a class stands for its being thrown. */
  private static void due(int promise, Call call, Object want) {
    Object got;
    try {
      got = call.answer();
    } catch (RuntimeException e) {
      got = e.getClass();
    }
    if (!want.equals(got)) {
      wrong++;
      StackTraceElement where = new Throwable().getStackTrace()[1];
      System.out.println("promise " + promise + ", line " + where.getLineNumber() + ": answered " + got
          + ", due is " + want);
    }
  }

  /** 0 above 1 and 2, 1 above 3: the order of the document's example. */
  private static Genericwood example() {
    Genericwood x = conditions(4);
    x.under(1, 0);
    x.under(2, 0);
    x.under(3, 1);
    return x;
  }

  private static Genericwood conditions(int count) {
    Genericwood x = new Genericwood();
    for (int i = 0; i < count; i++) x.condition();
    return x;
  }

  private static void names(Genericwood x, int count) {
    for (int i = 0; i < count; i++) x.name();
  }

  private static void aNewObject() {
    Genericwood x = new Genericwood();
    due(1, () -> x.checksum(), 31L * 7);
    due(1, () -> x.condition(), 0);
    due(1, () -> x.name(), 0);
    due(1, () -> x.atom('=', 0, 0), 0);
    due(1, () -> new Genericwood().checksum(), 31L * 7);
  }

  private static void condition() {
    Genericwood x = conditions(6);
    due(2, () -> x.condition(), 6);
    due(2, () -> x.isBelow(6, 6), true);
    due(2, () -> x.isBelow(6, 0) || x.isBelow(0, 6), false);
    long before = x.checksum();
    due(2, () -> x.condition(), STATE);
    due(2, () -> x.checksum(), before);
  }

  private static void under() {
    Genericwood x = conditions(5);
    due(3, () -> x.under(1, 0), 1);
    due(3, () -> x.under(3, 2), 2);
    due(3, () -> x.under(0, 3), 6);
    due(3, () -> x.isBelow(1, 2), true);
    due(3, () -> x.under(1, 2), OPERATION);
    due(3, () -> x.under(2, 1), OPERATION);
    due(3, () -> x.under(4, 4), OPERATION);
    due(3, () -> x.under(5, 5), INDEX);
    due(3, () -> x.under(-1, 0), INDEX);
    due(3, () -> x.under(0, 5), INDEX);
    due(3, () -> x.under(4, 1), 10);
    Genericwood deep = conditions(7);
    for (int i = 6; i > 1; i--) deep.under(i, i - 1);
    due(3, () -> deep.under(1, 0), 21);
  }

  private static void isBelowAndFit() {
    Genericwood x = example();
    due(4, () -> x.isBelow(3, 0), true);
    due(4, () -> x.isBelow(0, 3), false);
    due(4, () -> x.isBelow(2, 2), true);
    due(4, () -> x.isBelow(2, 1), false);
    due(4, () -> x.isBelow(4, 0), INDEX);
    due(4, () -> x.isBelow(0, -1), INDEX);
    due(4, () -> x.isBelow(Integer.MIN_VALUE, Integer.MAX_VALUE), INDEX);
    due(5, () -> x.fit(1, 2), false);
    due(5, () -> x.fit(3, 0), true);
    due(5, () -> x.fit(2, 2), true);
    due(5, () -> x.fit(2, 4), INDEX);
    due(5, () -> x.fit(-1, 2), INDEX);
    Genericwood vee = conditions(3);
    vee.under(2, 0);
    due(5, () -> vee.fit(0, 1), false);
    vee.under(2, 1);
    due(5, () -> vee.fit(0, 1), true);
  }

  private static void lastsAndAntichains() {
    Genericwood x = example();
    due(6, () -> x.lasts(), 12);
    due(6, () -> new Genericwood().lasts(), 0);
    due(6, () -> conditions(7).lasts(), 127);
    due(7, () -> x.isAntichain(6), true);
    due(7, () -> x.isAntichain(10), false);
    due(7, () -> x.isAntichain(13), false);
    due(7, () -> x.isAntichain(0), true);
    due(7, () -> x.isAntichain(1), true);
    due(7, () -> x.isAntichain(16), ARGUMENT);
    due(7, () -> x.isAntichain(-1), ARGUMENT);
    due(7, () -> new Genericwood().isAntichain(0), true);
    due(7, () -> new Genericwood().isAntichain(1), ARGUMENT);
    due(8, () -> x.widest(), 2);
    due(8, () -> new Genericwood().widest(), 0);
    due(8, () -> conditions(7).widest(), 7);
    Genericwood vee = conditions(3);
    vee.under(2, 0);
    vee.under(2, 1);
    due(8, () -> vee.widest(), 1);
  }

  private static void denseSetsAndFilters() {
    Genericwood x = example();
    due(9, () -> x.isDense(12), true);
    due(9, () -> x.isDense(4), false);
    due(9, () -> x.isDense(6), false);
    due(9, () -> x.isDense(16), ARGUMENT);
    due(9, () -> x.isDense(Integer.MIN_VALUE), ARGUMENT);
    due(9, () -> new Genericwood().isDense(0), true);
    due(10, () -> x.isFilter(11), true);
    due(10, () -> x.isFilter(3), true);
    due(10, () -> x.isFilter(1), true);
    due(10, () -> x.isFilter(0), false);
    due(10, () -> x.isFilter(2), false);
    due(10, () -> x.isFilter(7), false);
    due(10, () -> x.isFilter(15), false);
    due(10, () -> x.isFilter(16), ARGUMENT);
    due(10, () -> x.isFilter(-1), ARGUMENT);
    due(10, () -> new Genericwood().isFilter(0), false);
    Genericwood vee = conditions(3);
    vee.under(2, 0);
    vee.under(2, 1);
    due(10, () -> vee.isFilter(3), false);
    due(10, () -> vee.isFilter(7), true);
    due(11, () -> x.filters(), 4);
    due(11, () -> vee.filters(), 3);
    due(11, () -> new Genericwood().filters(), 0);
    due(11, () -> filtersCounted(vee, 3), 3);
    due(11, () -> filtersCounted(conditions(7), 7), 7);
  }

  private static int filtersCounted(Genericwood x, int conditions) {
    int count = 0;
    for (int set = 0; set < 1 << conditions; set++) if (x.isFilter(set)) count++;
    return count;
  }

  private static void orderAsAWhole() {
    Genericwood x = example();
    due(12, () -> x.isSeparative(), false);
    due(12, () -> new Genericwood().isSeparative(), true);
    due(12, () -> conditions(3).isSeparative(), true);
    Genericwood fork = conditions(3);
    fork.under(1, 0);
    due(12, () -> fork.isSeparative(), false);
    fork.under(2, 0);
    due(12, () -> fork.isSeparative(), true);
    due(13, () -> x.cut(0), 12);
    due(13, () -> x.cut(1), 8);
    due(13, () -> x.cut(2), 4);
    due(13, () -> x.cut(4), INDEX);
    due(13, () -> x.cut(-1), INDEX);
    due(14, () -> x.closure(8), 10);
    due(14, () -> x.closure(4), 4);
    due(14, () -> x.closure(12), 15);
    due(14, () -> x.closure(6), 15);
    due(14, () -> x.closure(0), 0);
    due(14, () -> x.closure(16), ARGUMENT);
    due(14, () -> x.closure(-8), ARGUMENT);
    due(14, () -> new Genericwood().closure(0), 0);
    due(15, () -> x.filterOf(3), 11);
    due(15, () -> x.filterOf(2), 5);
    due(15, () -> x.filterOf(1), ARGUMENT);
    due(15, () -> x.filterOf(4), ARGUMENT);
    due(15, () -> x.filterOf(-1), ARGUMENT);
    due(15, () -> x.filterOf(34), ARGUMENT);
  }

  private static void namesAndPairs() {
    Genericwood x = example();
    for (int i = 0; i < 12; i++) {
      int want = i;
      due(16, () -> x.name(), want);
    }
    due(16, () -> x.name(), STATE);
    due(17, () -> x.pair(1, 0, 0), 1);
    due(17, () -> x.pair(1, 0, 3), 2);
    due(17, () -> x.pair(1, 0, 0), OPERATION);
    due(17, () -> x.pair(12, 0, 0), INDEX);
    due(17, () -> x.pair(1, -1, 0), INDEX);
    due(17, () -> x.pair(1, 0, 4), INDEX);
    due(17, () -> x.pair(1, 1, 4), INDEX);
    due(17, () -> x.pair(1, 1, 0), ARGUMENT);
    due(17, () -> x.pair(0, 5, 0), ARGUMENT);
    due(17, () -> x.pair(1, 0, 1), 3);
    due(17, () -> x.pair(1, 0, 2), 4);
    due(17, () -> x.pair(1, 0, 2), OPERATION);
    due(17, () -> x.pair(2, 0, 0) + x.pair(2, 0, 1) + x.pair(2, 0, 2) + x.pair(2, 0, 3), 10);
    due(17, () -> x.pair(2, 1, 0), STATE);
    due(17, () -> x.pair(3, 2, 0), 1);
    due(17, () -> x.pair(4, 3, 0), 1);
    long before = x.checksum();
    due(17, () -> x.pair(5, 4, 0), OPERATION);
    due(17, () -> x.checksum(), before);
    due(17, () -> x.pair(5, 3, 0), 1);
    due(18, () -> x.unpair(2), 3);
    due(18, () -> x.unpair(0), OPERATION);
    due(18, () -> x.unpair(12), INDEX);
    due(18, () -> x.unpair(-1), INDEX);
    due(18, () -> x.unpair(2) + x.unpair(2) + x.unpair(2), 3);
    due(18, () -> x.unpair(2), OPERATION);
    due(19, () -> x.rank(0), 0);
    due(19, () -> x.rank(2), 0);
    due(19, () -> x.rank(4), 2);
    due(19, () -> x.rank(12), INDEX);
    due(19, () -> x.rank(-1), INDEX);
    due(17, () -> x.pair(5, 4, 0), 2);
    due(19, () -> x.rank(5), 3);
    due(17, () -> x.pair(2, 0, 0), OPERATION);
    due(19, () -> x.rank(2), 0);
  }

  /** A pair low down can raise names above it too high, also when the name is full already. */
  private static void ranksAboveAPair() {
    Genericwood x = conditions(4);
    names(x, 6);
    x.pair(2, 0, 0);
    x.pair(3, 2, 0);
    x.pair(4, 3, 0);
    for (int p = 1; p < 4; p++) x.pair(2, 0, p);
    due(17, () -> x.pair(1, 0, 0), 1);
    due(17, () -> x.pair(2, 1, 0), OPERATION);
    due(18, () -> x.unpair(4), 0);
    due(17, () -> x.pair(2, 1, 0), STATE);
    due(18, () -> x.unpair(2), 3);
    due(17, () -> x.pair(2, 1, 3), 4);
    due(19, () -> x.rank(3), 3);
    due(17, () -> x.pair(4, 3, 0), OPERATION);
  }

  private static void standard() {
    Genericwood x = conditions(1);
    due(20, () -> x.standard(12), 4);
    due(20, () -> x.standard(0), 0);
    due(20, () -> x.standard(1), 1);
    due(20, () -> x.standard(2), 2);
    due(20, () -> x.standard(3), 3);
    due(20, () -> x.checksum(), sumOf(1, 0, 1, 0, 2, 1, 2, 0, 1, 3, 2, 3, 0));
    due(20, () -> x.standard(15), 5);
    due(19, () -> x.rank(5), 3);
    due(20, () -> x.standard(-1), ARGUMENT);
    due(20, () -> x.standard(16), ARGUMENT);
    due(17, () -> x.pair(5, 0, 0), OPERATION);
    due(17, () -> x.pair(1, 4, 0), ARGUMENT);
    due(18, () -> x.unpair(5), OPERATION);
    due(18, () -> x.unpair(0), OPERATION);
    x.condition();
    due(20, () -> x.standard(0), OPERATION);
    due(20, () -> x.standard(16), ARGUMENT);
    x.under(1, 0);
    due(20, () -> x.standard(0), 0);
    due(20, () -> new Genericwood().standard(0), OPERATION);
    due(20, () -> new Genericwood().standard(16), ARGUMENT);
  }

  private static void standardWithoutRoom() {
    Genericwood x = conditions(1);
    names(x, 10);
    due(20, () -> x.standard(2), STATE);
    due(20, () -> x.name(), 10);
    due(20, () -> x.standard(0), 11);
    due(20, () -> x.standard(0), 11);
    due(20, () -> x.standard(1), STATE);
    x.condition();
    due(20, () -> x.standard(1), OPERATION);
    Genericwood y = conditions(1);
    names(y, 8);
    due(20, () -> y.standard(8), 11);
    due(20, () -> y.standard(3), 10);
    due(20, () -> y.becomes(11, 0), 8);
  }

  /** Names 0; 1 = {0 by 1}; 2 = {0 by 0}; 3 = {1 by 0, 2 by 2}. */
  private static Genericwood named() {
    Genericwood x = example();
    names(x, 4);
    x.pair(1, 0, 1);
    x.pair(2, 0, 0);
    x.pair(3, 1, 0);
    x.pair(3, 2, 2);
    return x;
  }

  private static void worldsAndValues() {
    Genericwood x = named();
    due(21, () -> x.becomes(0, 3), 0);
    due(21, () -> x.becomes(1, 3), 1);
    due(21, () -> x.becomes(1, 2), 0);
    due(21, () -> x.becomes(3, 3), 2);
    due(21, () -> x.becomes(3, 2), 3);
    due(21, () -> x.becomes(4, 2), INDEX);
    due(21, () -> x.becomes(-1, 0), INDEX);
    due(21, () -> x.becomes(0, 0), ARGUMENT);
    due(21, () -> x.becomes(0, 4), ARGUMENT);
    due(21, () -> x.becomes(0, -1), ARGUMENT);
    due(22, () -> x.valueIn(0, 1), 8);
    due(22, () -> x.valueIn(2, 3), 12);
    due(22, () -> x.valueIn(0, 3), 4);
    due(22, () -> x.valueIn(3, 3), 0);
    due(22, () -> x.valueIn(0, 4), INDEX);
    due(22, () -> x.valueIn(-1, 0), INDEX);
    due(23, () -> x.valueLike(1, 2), 8);
    due(23, () -> x.valueLike(2, 1), 8);
    due(23, () -> x.valueLike(0, 1), 4);
    due(23, () -> x.valueLike(3, 3), 12);
    due(23, () -> x.valueLike(4, 0), INDEX);
    due(23, () -> x.valueLike(0, -1), INDEX);
    due(24, () -> x.forcesIn(0, 0, 1), false);
    due(24, () -> x.forcesIn(1, 0, 1), true);
    due(24, () -> x.forcesIn(0, 2, 3), true);
    due(24, () -> x.forcesIn(2, 0, 3), true);
    due(24, () -> x.forcesIn(4, 0, 1), INDEX);
    due(24, () -> x.forcesIn(0, 4, 1), INDEX);
    due(24, () -> x.forcesIn(0, 0, -1), INDEX);
    due(25, () -> x.forcesLike(2, 0, 1), true);
    due(25, () -> x.forcesLike(0, 0, 1), false);
    due(25, () -> x.forcesLike(1, 1, 2), true);
    due(25, () -> x.forcesLike(0, 3, 3), true);
    due(25, () -> x.forcesLike(-1, 0, 0), INDEX);
    due(25, () -> x.forcesLike(0, 4, 0), INDEX);
    due(25, () -> x.forcesLike(0, 0, 4), INDEX);
    due(22, () -> x.condition() + x.valueIn(0, 2), 16);
    due(23, () -> x.valueLike(0, 2), 16);
    due(24, () -> x.forcesIn(4, 0, 2), false);
    due(22, () -> x.under(4, 0) + x.valueIn(0, 2), 5 + 28);
    due(23, () -> x.unpair(2) + x.valueLike(0, 2), 28);
  }

  private static void mix() {
    Genericwood x = named();
    due(26, () -> x.mix(1, 1, 2, 2), 4);
    due(26, () -> x.becomes(4, 3) + 16 * x.becomes(4, 2), 17);
    due(26, () -> x.unpair(4), 2);
    due(26, () -> x.mix(0, 3, 0, 2), 5);
    due(26, () -> x.unpair(5), OPERATION);
    due(26, () -> x.mix(1, 0, 2, 3), OPERATION);
    due(26, () -> x.mix(1, 1, 2, 1), OPERATION);
    due(26, () -> x.mix(1, 0, 6, 0), INDEX);
    due(26, () -> x.mix(-1, 1, 2, 2), INDEX);
    due(26, () -> x.mix(1, 4, 2, 2), INDEX);
    due(26, () -> x.mix(1, 1, 2, -1), INDEX);
    due(26, () -> x.mix(3, 1, 3, 2), 6);
    due(26, () -> x.valueLike(6, 3), 12);
    due(26, () -> x.unpair(6), 3);
    due(26, () -> x.unpair(6), 2);
    due(26, () -> x.mix(3, 2, 3, 1), 7);
    due(26, () -> x.unpair(7), 3);
    x.pair(3, 2, 1);
    long before = x.checksum();
    due(26, () -> x.mix(3, 1, 3, 2), OPERATION);
    due(26, () -> x.checksum(), before);
    due(26, () -> x.mix(3, 3, 3, 2), 8);
    names(x, 3);
    due(26, () -> x.mix(1, 1, 2, 2), STATE);
    due(26, () -> x.mix(1, 0, 2, 2), OPERATION);
    due(26, () -> x.mix(3, 1, 3, 2), OPERATION);
    due(26, () -> x.mix(12, 0, 2, 2), INDEX);
  }

  /** Pairs that come again, by another one of the first name, are there once; by numbers of conditions. */
  private static void mixWithoutDoubles() {
    Genericwood x = example();
    names(x, 2);
    x.pair(1, 0, 1);
    x.pair(1, 0, 0);
    due(26, () -> x.mix(1, 1, 0, 2), 2);
    due(26, () -> x.checksum(), sumOf(15, 10, 4, 8, 0, 1, 16, 0, 1, 16, 48, 0));
    due(26, () -> x.unpair(2), 1);
  }

  /** The checksum that adds these in turn. */
  private static long sumOf(int... steps) {
    long sum = 7;
    for (int step : steps) sum = 31 * sum + step;
    return sum;
  }

  private static void formulas() {
    Genericwood x = named();
    due(27, () -> x.atom('e', 0, 1), 0);
    due(27, () -> x.atom('=', 100, 103), 1);
    due(27, () -> x.atom('a', 0, 1), ARGUMENT);
    due(27, () -> x.atom('E', 0, 1), ARGUMENT);
    due(27, () -> x.atom('\0', 0, 1), ARGUMENT);
    due(27, () -> x.atom('e', 4, 1), ARGUMENT);
    due(27, () -> x.atom('e', 0, -1), ARGUMENT);
    due(27, () -> x.atom('e', 99, 0), ARGUMENT);
    due(27, () -> x.atom('e', 0, 104), ARGUMENT);
    due(28, () -> x.both('a', 0, 1), 2);
    due(28, () -> x.both('o', 2, 0), 3);
    due(28, () -> x.both('e', 0, 1), ARGUMENT);
    due(28, () -> x.both('e', 0, 4), INDEX);
    due(28, () -> x.both('a', -1, 0), INDEX);
    due(29, () -> x.not(3), 4);
    due(29, () -> x.not(5), INDEX);
    due(29, () -> x.not(-1), INDEX);
    due(29, () -> x.not(4), 5);
    due(29, () -> x.not(5), OPERATION);
    due(28, () -> x.both('a', 0, 5), OPERATION);
    due(28, () -> x.both('o', 5, 0), OPERATION);
    due(28, () -> x.both('x', 5, 0), ARGUMENT);
    due(30, () -> x.bind('A', 0, 3, 5), OPERATION);
    due(30, () -> x.bind('A', 0, 3, 6), INDEX);
    due(30, () -> x.bind('n', 0, 3, 6), INDEX);
    due(30, () -> x.bind('n', 0, 3, 5), ARGUMENT);
    due(30, () -> x.bind('A', 4, 3, 5), ARGUMENT);
    due(30, () -> x.bind('A', -1, 3, 5), ARGUMENT);
    due(30, () -> x.bind('E', 100, 3, 5), ARGUMENT);
    due(30, () -> x.bind('E', 0, 4, 5), ARGUMENT);
    due(30, () -> x.bind('E', 0, 104, 5), ARGUMENT);
    due(30, () -> x.bind('E', 3, 102, 1), 6);
    due(31, () -> x.free(6), 5);
    due(31, () -> x.free(0), 0);
    due(31, () -> x.free(1), 9);
    due(31, () -> x.free(5), 9);
    due(31, () -> x.free(7), INDEX);
    due(31, () -> x.free(-1), INDEX);
    due(30, () -> x.bind('A', 0, 100, 1), 7);
    due(31, () -> x.free(7), 9);
    due(30, () -> x.bind('A', 0, 3, 7), 8);
    due(31, () -> x.free(8), 8);
    due(30, () -> x.bind('E', 3, 3, 8), 9);
    due(31, () -> x.free(9), 0);
    for (int i = 10; i < 16; i++) x.atom('e', 0, 0);
    due(27, () -> x.atom('e', 0, 0), STATE);
    due(27, () -> x.atom('e', 0, 4), ARGUMENT);
    due(28, () -> x.both('a', 0, 0), STATE);
    due(28, () -> x.both('a', 0, 5), OPERATION);
    due(29, () -> x.not(0), STATE);
    due(29, () -> x.not(5), OPERATION);
    due(30, () -> x.bind('A', 0, 0, 0), STATE);
    due(30, () -> x.bind('A', 0, 0, 5), OPERATION);
    due(30, () -> x.bind('A', 0, 4, 0), ARGUMENT);
  }

  private static void judgements() {
    Genericwood x = named();
    x.atom('e', 0, 1);
    x.not(0);
    x.both('o', 0, 1);
    x.both('a', 0, 1);
    x.atom('=', 100, 0);
    x.bind('E', 0, 3, 4);
    x.bind('A', 0, 3, 4);
    due(32, () -> x.value(0), 8);
    due(32, () -> x.value(1), 4);
    due(32, () -> x.value(2), 12);
    due(32, () -> x.value(3), 0);
    due(32, () -> x.value(5), 4);
    due(32, () -> x.value(6), 0);
    due(32, () -> x.value(4), OPERATION);
    due(32, () -> x.value(7), INDEX);
    due(32, () -> x.value(-1), INDEX);
    due(33, () -> x.forces(0, 2), true);
    due(33, () -> x.forces(0, 0), false);
    due(33, () -> x.forces(1, 0), true);
    due(33, () -> x.forces(0, 1), false);
    due(33, () -> x.forces(2, 1), true);
    due(33, () -> x.forces(2, 5), true);
    due(33, () -> x.forces(0, 5), false);
    due(33, () -> x.forces(4, 0), INDEX);
    due(33, () -> x.forces(4, 4), INDEX);
    due(33, () -> x.forces(0, 7), INDEX);
    due(33, () -> x.forces(0, 4), OPERATION);
    due(34, () -> x.weakly(0, 2), false);
    due(34, () -> x.weakly(1, 2), true);
    due(34, () -> x.weakly(2, 2), true);
    due(34, () -> x.weakly(0, 0), false);
    due(34, () -> x.weakly(0, 3), false);
    due(34, () -> x.weakly(-1, 2), INDEX);
    due(34, () -> x.weakly(0, -1), INDEX);
    due(34, () -> x.weakly(0, 4), OPERATION);
    due(35, () -> x.holds(0, 3), true);
    due(35, () -> x.holds(0, 2), false);
    due(35, () -> x.holds(1, 2), true);
    due(35, () -> x.holds(5, 2), true);
    due(35, () -> x.holds(5, 3), false);
    due(35, () -> x.holds(6, 2), false);
    due(35, () -> x.holds(7, 0), INDEX);
    due(35, () -> x.holds(4, 0), OPERATION);
    due(35, () -> x.holds(0, 0), ARGUMENT);
    due(35, () -> x.holds(0, 4), ARGUMENT);
    due(35, () -> x.holds(0, -1), ARGUMENT);
    due(36, () -> x.against(0), 2);
    due(36, () -> x.against(1), 3);
    due(36, () -> x.against(3), 2);
    due(36, () -> x.against(2), NOTHING);
    due(36, () -> x.against(4), OPERATION);
    due(36, () -> x.against(7), INDEX);
    due(32, () -> x.pair(2, 0, 1) + x.unpair(1) + x.value(0), 2);
    due(44, () -> x.isSound(), true);
  }

  /** In a chain what is forced below is forced above, but weakly only where it is told. */
  private static void weakForcingInAChain() {
    Genericwood x = conditions(2);
    x.under(1, 0);
    names(x, 3);
    x.pair(1, 0, 1);
    x.pair(2, 0, 0);
    x.atom('e', 0, 1);
    x.not(0);
    x.not(1);
    x.atom('=', 1, 2);
    x.atom('=', 100, 0);
    x.bind('E', 0, 1, 4);
    x.bind('A', 0, 1, 4);
    due(33, () -> x.forces(0, 0), true);
    due(34, () -> x.weakly(0, 0), false);
    due(34, () -> x.weakly(1, 0), true);
    due(34, () -> x.weakly(0, 1), false);
    due(34, () -> x.weakly(0, 2), true);
    due(33, () -> x.forces(0, 3), true);
    due(34, () -> x.weakly(0, 3), false);
    due(34, () -> x.weakly(1, 3), true);
    due(33, () -> x.forces(0, 5), true);
    due(34, () -> x.weakly(0, 5), false);
    due(34, () -> x.weakly(0, 6), true);
  }

  /** The nearest binder counts, and the bound of a binder is not bound by it. */
  private static void nestedLetters() {
    Genericwood x = conditions(1);
    x.standard(2);
    x.standard(4);
    x.atom('=', 100, 0);
    x.bind('E', 0, 100, 0);
    x.bind('E', 0, 2, 1);
    due(31, () -> x.free(1), 1);
    due(31, () -> x.free(2), 0);
    due(32, () -> x.value(2), 1);
    due(35, () -> x.holds(2, 0), true);
    x.bind('E', 0, 3, 1);
    due(32, () -> x.value(3), 0);
    due(35, () -> x.holds(3, 0), false);
    x.both('o', 1, 0);
    x.bind('A', 0, 1, 4);
    due(32, () -> x.value(5), 1);
    x.both('a', 1, 0);
    x.bind('E', 0, 2, 6);
    due(32, () -> x.value(7), 0);
    due(33, () -> x.forces(0, 7), false);
    due(34, () -> x.weakly(0, 5), true);
  }

  private static void maps() {
    Genericwood x = example();
    names(x, 3);
    x.pair(1, 0, 1);
    x.pair(2, 1, 0);
    due(37, () -> x.swap(1, 1), true);
    due(37, () -> x.swap(1, 2), false);
    due(38, () -> x.goes(1), 2);
    due(38, () -> x.goes(2), 1);
    due(38, () -> x.goes(0), 0);
    due(38, () -> x.goes(4), INDEX);
    due(38, () -> x.goes(-1), INDEX);
    due(39, () -> x.isFixed(1), OPERATION);
    due(39, () -> x.isFixed(3), INDEX);
    due(37, () -> x.swap(4, 0), INDEX);
    due(37, () -> x.swap(0, -1), INDEX);
    due(38, () -> x.condition(), 4);
    due(38, () -> x.goes(4), 4);
    x.under(4, 2);
    due(37, () -> x.swap(1, 1), false);
    due(37, () -> x.swap(3, 4), true);
    due(38, () -> 10 * x.goes(3) + x.goes(4), 43);
    due(39, () -> x.isFixed(0), true);
    due(39, () -> x.isFixed(1), false);
    due(39, () -> x.isFixed(2), false);
    due(39, () -> x.isFixed(-1), INDEX);
    due(39, () -> x.pair(1, 0, 4) + (x.isFixed(1) ? 10 : 20), 12);
    due(39, () -> x.isFixed(2), true);
    due(37, () -> x.swap(1, 2), false);
    due(39, () -> x.isFixed(0), OPERATION);
    due(37, () -> x.swap(2, 1), true);
    due(37, () -> x.swap(1, 3), false);
    due(37, () -> x.swap(1, 4), false);
    due(38, () -> 100 * x.goes(1) + 10 * x.goes(3) + x.goes(4), 324);
  }

  private static void clearAndSums() {
    Genericwood x = named();
    x.atom('e', 0, 1);
    x.not(0);
    due(41, () -> x.checksum(), sumOfNamed(2));
    due(40, () -> x.clear(), 2);
    due(40, () -> x.clear(), 0);
    due(40, () -> x.free(0), INDEX);
    due(41, () -> x.checksum(), sumOfNamed(0));
    due(40, () -> x.atom('=', 0, 100), 0);
    due(40, () -> x.free(0), 1);
    due(42, () -> x.lastShare(), 0.5f);
    due(42, () -> new Genericwood().lastShare(), NOTHING);
    Genericwood third = conditions(3);
    third.under(0, 1);
    third.under(0, 2);
    due(42, () -> third.lastShare(), 1f / 3f);
    due(43, () -> x.meanRank(), 1.0);
    x.name();
    due(43, () -> x.meanRank(), 4.0 / 5.0);
    due(43, () -> new Genericwood().meanRank(), NOTHING);
    due(44, () -> x.isSound(), true);
    due(44, () -> new Genericwood().isSound(), true);
  }

  private static long sumOfNamed(int formulas) {
    return sumOf(15, 10, 4, 8, 0, 1, 16, 1, 0, 2, 1, 2 + 32, formulas);
  }

  /** A wood without conditions has names and formulas, but no worlds. */
  private static void withoutConditions() {
    Genericwood x = new Genericwood();
    names(x, 2);
    x.atom('=', 0, 1);
    x.not(0);
    due(22, () -> x.valueIn(0, 1), 0);
    due(23, () -> x.valueLike(0, 1), 0);
    due(17, () -> x.pair(1, 0, 0), INDEX);
    due(32, () -> x.value(1), 0);
    due(36, () -> x.against(1), NOTHING);
    due(33, () -> x.forces(0, 0), INDEX);
    due(35, () -> x.holds(0, 0), ARGUMENT);
    due(39, () -> x.isFixed(1), true);
    due(44, () -> x.isSound(), true);
  }

  public static void main(String[] args) {
    aNewObject();
    condition();
    under();
    isBelowAndFit();
    lastsAndAntichains();
    denseSetsAndFilters();
    orderAsAWhole();
    namesAndPairs();
    ranksAboveAPair();
    standard();
    standardWithoutRoom();
    worldsAndValues();
    mix();
    mixWithoutDoubles();
    formulas();
    judgements();
    weakForcingInAChain();
    nestedLetters();
    maps();
    clearAndSums();
    withoutConditions();
    System.out.println(wrong == 0 ? "all answers are as due" : wrong + " answers are not as due");
    if (wrong != 0) System.exit(1);
  }
}
