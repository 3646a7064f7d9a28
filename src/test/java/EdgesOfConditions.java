/** The boundary cases of 'Conditions' and 'Worlds', and of the promises 1 to 15. */
public final class EdgesOfConditions {
  private static final Due.Recipe NONE = Due.nothing();
  private static final Due.Recipe ONE = Due.order(1);
  private static final Due.Recipe CHAIN = Due.order(2, 1, 0);
  private static final Due.Recipe UPSIDE = Due.order(2, 0, 1);
  private static final Due.Recipe FORK = Due.order(3, 1, 0, 2, 0);
  /** 2 below 0 and below 1, which are beside each other. */
  private static final Due.Recipe VEE = Due.order(3, 2, 0, 2, 1);
  /** 0 above 1 and 2, 1 above 3: the order of the document's example. */
  private static final Due.Recipe TREE = Due.order(4, 1, 0, 2, 0, 3, 1);
  private static final Due.Recipe SEVEN = Due.order(7);
  private static final Due.Recipe LADDER = Due.order(7, 1, 0, 2, 1, 3, 2, 4, 3, 5, 4, 6, 5);

  private interface OfOne {
    Object answer(Genericwood x, int number);
  }

  private interface OfTwo {
    Object answer(Genericwood x, int condition, int other);
  }

  /** Numbers below 0, the count itself and above are no conditions, for either. */
  private static void needsTwo(int promise, String method, OfTwo call) {
    for (int no : new int[] {Due.LEAST, -1, 4, 5, 7, 32, Due.MOST}) {
      Due.refused(promise, method + "(" + no + ", 0)", TREE, x -> call.answer(x, no, 0), Due.INDEX);
      Due.refused(promise, method + "(0, " + no + ")", TREE, x -> call.answer(x, 0, no), Due.INDEX);
      Due.refused(promise, method + "(3, " + no + ")", TREE, x -> call.answer(x, 3, no), Due.INDEX);
      Due.refused(promise, method + " of " + no + " twice", TREE, x -> call.answer(x, no, no), Due.INDEX);
    }
    Due.refused(promise, method + " without conditions", NONE, x -> call.answer(x, 0, 0), Due.INDEX);
    Due.refused(promise, method + "(7, 6) of 7", SEVEN, x -> call.answer(x, 7, 6), Due.INDEX);
    Due.refused(promise, method + "(6, 7) of 7", SEVEN, x -> call.answer(x, 6, 7), Due.INDEX);
  }

  /** Sets that have other ones than the conditions, negative ones too. */
  private static void needsSet(int promise, String method, OfOne call) {
    for (int set : new int[] {16, 17, 31, 128, 1 << 30, Due.MOST, -1, -16, Due.LEAST, Due.LEAST + 15}) {
      Due.refused(promise, method + "(" + set + ") of 4", TREE, x -> call.answer(x, set), Due.ARGUMENT);
    }
    for (int set : new int[] {128, 255, -1, -128, Due.LEAST}) {
      Due.refused(promise, method + "(" + set + ") of 7", SEVEN, x -> call.answer(x, set), Due.ARGUMENT);
    }
    for (int set : new int[] {1, 2, 64, Due.MOST, -1, Due.LEAST}) {
      Due.refused(promise, method + "(" + set + ") of none", NONE, x -> call.answer(x, set), Due.ARGUMENT);
    }
    Due.refused(promise, method + "(2) of 1", ONE, x -> call.answer(x, 2), Due.ARGUMENT);
  }

  private static void aNewObject() {
    Due.due(1, "there are no conditions", NONE, x -> x.cut(0), Due.INDEX);
    Due.due(1, "there are no last ones", NONE, x -> x.lasts(), 0);
    Due.due(1, "there are no names", NONE, x -> x.rank(0), Due.INDEX);
    Due.due(1, "there are no formulas", NONE, x -> x.free(0), Due.INDEX);
    Due.due(1, "none to take away", NONE, x -> x.clear(), 0);
    Due.due(1, "one object has nothing of another one", SEVEN, x -> new Genericwood().lasts(), 0);
  }

  private static void condition() {
    for (int count = 0; count < 7; count++) {
      int number = count;
      Due.due(2, "the number after " + count, Due.order(count), x -> x.condition(), number);
      Due.due(2, "below itself, of " + (count + 1), Due.order(count),
          x -> x.isBelow(x.condition(), number), true);
      Due.due(2, "below itself alone, of " + (count + 1), Due.order(count), x -> belowAnother(x), false);
    }
    Due.refused(2, "an eighth one", SEVEN, x -> x.condition(), Due.STATE);
    Due.refused(2, "an eighth one of a ladder", LADDER, x -> x.condition(), Due.STATE);
    Due.refused(2, "a ninth one after an eighth", Due.of(SEVEN, x -> Due.answer(x, y -> y.condition())),
        x -> x.condition(), Due.STATE);
    Due.due(2, "a seventh one after others were ordered", Due.order(6, 1, 0, 2, 0, 3, 1, 4, 2, 5, 4),
        x -> x.condition(), 6);
  }

  /** Adds a condition, and tells whether it is below an earlier one or one of those below it. */
  private static boolean belowAnother(Genericwood x) {
    int added = x.condition();
    for (int p = 0; p < added; p++) {
      if (x.isBelow(added, p) || x.isBelow(p, added)) return true;
    }
    return false;
  }

  private static void under() {
    needsTwo(3, "under", (x, p, q) -> x.under(p, q));
    Due.refused(3, "a condition below itself", TREE, x -> x.under(0, 0), Due.OPERATION);
    Due.refused(3, "a last one below itself", TREE, x -> x.under(3, 3), Due.OPERATION);
    Due.refused(3, "the only one below itself", ONE, x -> x.under(0, 0), Due.OPERATION);
    Due.refused(3, "told already", TREE, x -> x.under(1, 0), Due.OPERATION);
    Due.refused(3, "told the other way round", TREE, x -> x.under(0, 1), Due.OPERATION);
    Due.refused(3, "it follows already", TREE, x -> x.under(3, 0), Due.OPERATION);
    Due.refused(3, "the other way round follows", TREE, x -> x.under(0, 3), Due.OPERATION);
    Due.refused(3, "the first below the last of 7", LADDER, x -> x.under(0, 6), Due.OPERATION);
    Due.refused(3, "the last below the first of 7", LADDER, x -> x.under(6, 0), Due.OPERATION);
    Due.due(3, "the first pair", Due.order(2), x -> x.under(1, 0), 1);
    Due.due(3, "a lower number below a higher one", Due.order(2), x -> x.under(0, 1), 1);
    Due.due(3, "one below another branch", TREE, x -> x.under(2, 1), 5);
    Due.due(3, "all that is below follows", Due.order(4, 1, 0, 2, 0), x -> x.under(0, 3), 5);
    Due.due(3, "all that is above follows", Due.order(4, 1, 0, 2, 1), x -> x.under(3, 2), 6);
    Due.due(3, "both follow through a middle one", Due.order(6, 1, 0, 2, 1, 4, 3, 5, 4),
        x -> x.under(3, 2), 15);
    Due.due(3, "the most pairs of 7", Due.order(7, 1, 0, 2, 1, 3, 2, 5, 4, 6, 5), x -> x.under(4, 3), 21);
    Due.due(3, "below two that are beside each other", Due.order(3, 2, 0), x -> x.under(2, 1), 2);
  }

  private static void isBelow() {
    needsTwo(4, "isBelow", (x, p, q) -> x.isBelow(p, q));
    for (int p = 0; p < 7; p++) {
      int one = p;
      Due.due(4, one + " below itself, of 7", SEVEN, x -> x.isBelow(one, one), true);
      Due.due(4, one + " below itself, of a ladder", LADDER, x -> x.isBelow(one, one), true);
      for (int q = 0; q < 7; q++) {
        int two = q;
        Due.due(4, one + " below " + two + " of a ladder", LADDER, x -> x.isBelow(one, two), one >= two);
        if (one != two) Due.due(4, one + " beside " + two, SEVEN, x -> x.isBelow(one, two), false);
      }
    }
    Due.due(4, "the only one", ONE, x -> x.isBelow(0, 0), true);
    Due.due(4, "below through another one", TREE, x -> x.isBelow(3, 0), true);
    Due.due(4, "above is not below", TREE, x -> x.isBelow(0, 3), false);
    Due.due(4, "of another branch", TREE, x -> x.isBelow(3, 2), false);
    Due.due(4, "both told, of three in a row, the upper one last", Due.order(3, 2, 1, 1, 0),
        x -> x.isBelow(2, 0), true);
    Due.due(4, "both told, of three in a row, the lower one last", Due.order(3, 1, 0, 2, 1),
        x -> x.isBelow(2, 0), true);
  }

  private static void fit() {
    needsTwo(5, "fit", (x, p, q) -> x.fit(p, q));
    for (int p = 0; p < 7; p++) {
      int one = p;
      Due.due(5, one + " and itself", SEVEN, x -> x.fit(one, one), true);
      if (one > 0) Due.due(5, "0 and " + one + " of 7 apart", SEVEN, x -> x.fit(0, one), false);
      if (one > 0) Due.due(5, "0 and " + one + " of a ladder", LADDER, x -> x.fit(0, one), true);
    }
    Due.due(5, "one below the other", TREE, x -> x.fit(3, 0), true);
    Due.due(5, "one above the other", TREE, x -> x.fit(0, 3), true);
    Due.due(5, "of two branches", TREE, x -> x.fit(1, 2), false);
    Due.due(5, "both below a third one is not enough", FORK, x -> x.fit(1, 2), false);
    Due.due(5, "both above a third one", VEE, x -> x.fit(0, 1), true);
    Due.due(5, "both above a third one through others", Due.order(5, 2, 0, 3, 1, 4, 2, 4, 3),
        x -> x.fit(0, 1), true);
  }

  private static void lasts() {
    Due.due(6, "none", NONE, x -> x.lasts(), 0);
    Due.due(6, "one", ONE, x -> x.lasts(), 1);
    Due.due(6, "7 beside each other", SEVEN, x -> x.lasts(), 127);
    Due.due(6, "7 in a row", LADDER, x -> x.lasts(), 64);
    Due.due(6, "7 in a row, the lowest number below", Due.order(7, 0, 1, 1, 2, 2, 3, 3, 4, 4, 5, 5, 6),
        x -> x.lasts(), 1);
    Due.due(6, "one below two", VEE, x -> x.lasts(), 4);
    Due.due(6, "two below one", FORK, x -> x.lasts(), 6);
    Due.due(6, "a new one is a last one", Due.of(CHAIN, Due.order(1)), x -> x.lasts(), 6);
    Due.due(6, "one above others stays so below another one", Due.order(3, 1, 0, 0, 2), x -> x.lasts(), 2);
  }

  private static void isAntichain() {
    needsSet(7, "isAntichain", (x, set) -> x.isAntichain(set));
    Due.due(7, "the empty set", TREE, x -> x.isAntichain(0), true);
    Due.due(7, "the empty set without conditions", NONE, x -> x.isAntichain(0), true);
    for (int p = 0; p < 7; p++) {
      int set = 1 << p;
      Due.due(7, p + " alone", LADDER, x -> x.isAntichain(set), true);
    }
    Due.due(7, "7 beside each other", SEVEN, x -> x.isAntichain(127), true);
    Due.due(7, "one below another one", CHAIN, x -> x.isAntichain(3), false);
    Due.due(7, "the first and last of 7 in a row", LADDER, x -> x.isAntichain(65), false);
    Due.due(7, "two below one", FORK, x -> x.isAntichain(6), true);
    Due.due(7, "two above one that is not of the set", VEE, x -> x.isAntichain(3), false);
    Due.due(7, "two that fit among others", TREE, x -> x.isAntichain(14), false);
  }

  private static void widest() {
    Due.due(8, "no condition", NONE, x -> x.widest(), 0);
    Due.due(8, "one", ONE, x -> x.widest(), 1);
    Due.due(8, "7 beside each other", SEVEN, x -> x.widest(), 7);
    Due.due(8, "7 in a row", LADDER, x -> x.widest(), 1);
    Due.due(8, "6 above one", Due.order(7, 6, 0, 6, 1, 6, 2, 6, 3, 6, 4, 6, 5), x -> x.widest(), 1);
    Due.due(8, "6 below one", Due.order(7, 1, 0, 2, 0, 3, 0, 4, 0, 5, 0, 6, 0), x -> x.widest(), 6);
    Due.due(8, "a ring of two above and two below", Due.order(4, 2, 0, 3, 0, 2, 1, 3, 1), x -> x.widest(), 2);
  }

  private static void isDense() {
    needsSet(9, "isDense", (x, set) -> x.isDense(set));
    Due.due(9, "the empty set without conditions", NONE, x -> x.isDense(0), true);
    Due.due(9, "the empty set of one", ONE, x -> x.isDense(0), false);
    Due.due(9, "the only one", ONE, x -> x.isDense(1), true);
    Due.due(9, "all of 7", SEVEN, x -> x.isDense(127), true);
    Due.due(9, "all of 7 but the last number", SEVEN, x -> x.isDense(63), false);
    Due.due(9, "all of 7 but 0", SEVEN, x -> x.isDense(126), false);
    Due.due(9, "the lowest of 7 in a row", LADDER, x -> x.isDense(64), true);
    Due.due(9, "all but the lowest of 7 in a row", LADDER, x -> x.isDense(63), false);
    Due.due(9, "a lower number below", UPSIDE, x -> x.isDense(1), true);
    Due.due(9, "a higher number above", UPSIDE, x -> x.isDense(2), false);
    Due.due(9, "all last ones", TREE, x -> x.isDense(12), true);
    Due.due(9, "all but a last one", TREE, x -> x.isDense(7), false);
    Due.due(9, "the one above all alone", FORK, x -> x.isDense(1), false);
  }

  private static void isFilter() {
    needsSet(10, "isFilter", (x, set) -> x.isFilter(set));
    Due.due(10, "the empty set without conditions", NONE, x -> x.isFilter(0), false);
    Due.due(10, "the empty set", TREE, x -> x.isFilter(0), false);
    Due.due(10, "the only one", ONE, x -> x.isFilter(1), true);
    Due.due(10, "the one above all alone", TREE, x -> x.isFilter(1), true);
    Due.due(10, "one without what is above", TREE, x -> x.isFilter(2), false);
    Due.due(10, "one without the one far above", LADDER, x -> x.isFilter(126), false);
    Due.due(10, "one without a higher number above", UPSIDE, x -> x.isFilter(1), false);
    Due.due(10, "a higher number above alone", UPSIDE, x -> x.isFilter(2), true);
    Due.due(10, "one without one in between", LADDER, x -> x.isFilter(125), false);
    Due.due(10, "all of 7 in a row", LADDER, x -> x.isFilter(127), true);
    Due.due(10, "two with none below both", FORK, x -> x.isFilter(7), false);
    Due.due(10, "two with one below both that is not of the set", VEE, x -> x.isFilter(3), false);
    Due.due(10, "two with one below both that is of the set", VEE, x -> x.isFilter(7), true);
    Due.due(10, "one of 7 beside each other", SEVEN, x -> x.isFilter(64), true);
    Due.due(10, "two of 7 beside each other", SEVEN, x -> x.isFilter(65), false);
  }

  private static void filters() {
    Due.due(11, "no condition", NONE, x -> x.filters(), 0);
    Due.due(11, "one", ONE, x -> x.filters(), 1);
    Due.due(11, "7 beside each other", SEVEN, x -> x.filters(), 7);
    Due.due(11, "7 in a row", LADDER, x -> x.filters(), 7);
    for (Due.Recipe recipe : new Due.Recipe[] {NONE, ONE, CHAIN, FORK, VEE, TREE, SEVEN, LADDER}) {
      Due.due(11, "as many as sets that are filters", recipe, x -> x.filters(), filtersOf(Due.wood(recipe)));
    }
  }

  /** How many sets of conditions are filters. */
  private static int filtersOf(Genericwood x) {
    int count = 0;
    for (int set = 0; set < 128; set++) {
      int one = set;
      if (Boolean.TRUE.equals(Due.answer(x, y -> y.isFilter(one)))) count++;
    }
    return count;
  }

  private static void isSeparative() {
    Due.due(12, "no condition", NONE, x -> x.isSeparative(), true);
    Due.due(12, "one", ONE, x -> x.isSeparative(), true);
    Due.due(12, "7 beside each other", SEVEN, x -> x.isSeparative(), true);
    Due.due(12, "two in a row", CHAIN, x -> x.isSeparative(), false);
    Due.due(12, "two in a row, the lower number below", UPSIDE, x -> x.isSeparative(), false);
    Due.due(12, "7 in a row", LADDER, x -> x.isSeparative(), false);
    Due.due(12, "two below one", FORK, x -> x.isSeparative(), true);
    Due.due(12, "one below two", VEE, x -> x.isSeparative(), false);
    Due.due(12, "one more in a row alone spoils it", TREE, x -> x.isSeparative(), false);
    Due.due(12, "two below each of two", Due.order(7, 1, 0, 2, 0, 3, 1, 4, 1, 5, 2, 6, 2),
        x -> x.isSeparative(), true);
    Due.due(12, "the same two below two", Due.order(4, 2, 0, 3, 0, 2, 1, 3, 1), x -> x.isSeparative(), false);
  }

  private static void cut() {
    for (int no : new int[] {Due.LEAST, -1, 4, 5, 32, Due.MOST}) {
      Due.refused(13, "cut(" + no + ")", TREE, x -> x.cut(no), Due.INDEX);
    }
    Due.refused(13, "no condition", NONE, x -> x.cut(0), Due.INDEX);
    Due.refused(13, "cut(7) of 7", SEVEN, x -> x.cut(7), Due.INDEX);
    Due.due(13, "the only one", ONE, x -> x.cut(0), 1);
    Due.due(13, "a last one has itself", SEVEN, x -> x.cut(6), 64);
    Due.due(13, "the first of 7 in a row", LADDER, x -> x.cut(0), 64);
    Due.due(13, "above all", TREE, x -> x.cut(0), 12);
    Due.due(13, "one that was a last one", CHAIN, x -> x.cut(0), 2);
  }

  private static void closure() {
    needsSet(14, "closure", (x, set) -> x.closure(set));
    Due.due(14, "the empty set without conditions", NONE, x -> x.closure(0), 0);
    Due.due(14, "the empty set", TREE, x -> x.closure(0), 0);
    Due.due(14, "the only one", ONE, x -> x.closure(1), 1);
    Due.due(14, "all of 7", SEVEN, x -> x.closure(127), 127);
    Due.due(14, "one of 7 beside each other", SEVEN, x -> x.closure(64), 64);
    Due.due(14, "the lowest of 7 in a row has all", LADDER, x -> x.closure(64), 127);
    Due.due(14, "the highest of 7 in a row has all", LADDER, x -> x.closure(1), 127);
    Due.due(14, "a lower number below has both", UPSIDE, x -> x.closure(1), 3);
    Due.due(14, "last ones below one, each below another of the set", FORK, x -> x.closure(6), 7);
    Due.due(14, "one of two below", FORK, x -> x.closure(2), 2);
    Due.due(14, "one that has the same last one", TREE, x -> x.closure(2), 10);
    Due.due(14, "a set that has more than its closure needs", TREE, x -> x.closure(9), 15);
  }

  private static void filterOf() {
    for (int no : new int[] {Due.LEAST, -1, 0, 1, 4, 5, 31, 32, 34, 35, Due.MOST}) {
      Due.refused(15, "filterOf(" + no + ")", TREE, x -> x.filterOf(no), Due.ARGUMENT);
    }
    Due.refused(15, "no condition", NONE, x -> x.filterOf(0), Due.ARGUMENT);
    Due.refused(15, "filterOf(7) of 7", SEVEN, x -> x.filterOf(7), Due.ARGUMENT);
    Due.refused(15, "one that was a last one", CHAIN, x -> x.filterOf(0), Due.ARGUMENT);
    Due.due(15, "the only one", ONE, x -> x.filterOf(0), 1);
    Due.due(15, "the last of 7 beside each other", SEVEN, x -> x.filterOf(6), 64);
    Due.due(15, "all of 7 in a row", LADDER, x -> x.filterOf(6), 127);
    Due.due(15, "those above through others", TREE, x -> x.filterOf(3), 11);
    Due.due(15, "two that are beside each other", VEE, x -> x.filterOf(2), 7);
  }

  public static void main(String[] args) {
    aNewObject();
    condition();
    under();
    isBelow();
    fit();
    lasts();
    isAntichain();
    widest();
    isDense();
    isFilter();
    filters();
    isSeparative();
    cut();
    closure();
    filterOf();
    Due.close();
  }
}
