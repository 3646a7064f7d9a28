/** The boundary cases of 'Valued', 'Forced' and 'Weakly', and of the promises 22 to 25 and 32 to 36. */
public final class EdgesOfJudgements {
  private static final int[] NO_NUMBERS = {Due.LEAST, -1, 4, 5, 12, 16, 32, 100, Due.MOST};
  private static final Due.Recipe NONE = Due.nothing();
  /** Names 0, 1 = {0 by 0} with one condition alone. */
  private static final Due.Recipe ALONE = Due.of(Due.order(1), Due.names(2), Due.pairs(1, 0, 0));
  /** Names 0, 1 = {0 by 1}, 2 = {0 by 0}, 3 = {1 by 0}; 1 is below 0. */
  private static final Due.Recipe CHAIN = Due.of(Due.order(2, 1, 0), Due.names(4), Due.pairs(1, 0, 1),
      Due.pairs(2, 0, 0), Due.pairs(3, 1, 0));
  /** Names 0, 1 = {0 by 1}, 2 = {0 by 0}, 3 = {0 by 1, 0 by 2}; 1 and 2 are below 0. */
  private static final Due.Recipe FORK = Due.of(Due.order(3, 1, 0, 2, 0), Due.names(4), Due.pairs(1, 0, 1),
      Due.pairs(2, 0, 0), Due.pairs(3, 0, 1, 0, 2));
  /** No conditions; the formulas 0 '=' and 1 not so. */
  private static final Due.Recipe EMPTY = Due.of(Due.names(2), x -> x.atom('=', 0, 1), x -> x.not(0));

  private interface OfTwo {
    Object answer(Genericwood x, int one, int other);
  }

  private static Due.Recipe then(Due.Recipe... steps) {
    return Due.of(steps);
  }

  private static boolean has(int set, int element) {
    return (set >> element & 1) != 0;
  }

  /** What two names are judged to be: by value, by forcing, and by weak forcing of a formula of them. */
  private static void atom(String what, Due.Recipe recipe, char kind, int name, int other, int value, int forced,
      int weak) {
    boolean in = kind == 'e';
    Due.due(in ? 22 : 23, what, recipe, x -> in ? x.valueIn(name, other) : x.valueLike(name, other), value);
    for (int p = 0; p < conditions(recipe); p++) {
      int one = p;
      Due.due(in ? 24 : 25, what + ", at " + p, recipe,
          x -> in ? x.forcesIn(one, name, other) : x.forcesLike(one, name, other), has(forced, p));
    }
    judged(what, then(recipe, x -> x.clear(), x -> x.atom(kind, name, other)), 0, value, forced, weak);
  }

  /** How many conditions a recipe makes. */
  private static int conditions(Due.Recipe recipe) {
    Genericwood x = Due.wood(recipe);
    int count = 0;
    while (count < 7 && isCondition(x, count)) count++;
    return count;
  }

  private static boolean isCondition(Genericwood x, int number) {
    return Due.answer(x, y -> y.goes(number)) instanceof Integer;
  }

  /** The value of a formula, the conditions that force it, and those that do so weakly. */
  private static void judged(String what, Due.Recipe recipe, int formula, int value, int forced, int weak) {
    int lasts = Due.wood(recipe).lasts();
    Due.due(32, what, recipe, x -> x.value(formula), value);
    for (int p = 0; p < conditions(recipe); p++) {
      int one = p;
      Due.due(33, what + ", at " + p, recipe, x -> x.forces(one, formula), has(forced, p));
      Due.due(34, what + ", at " + p, recipe, x -> x.weakly(one, formula), has(weak, p));
      Object so = has(lasts, p) ? (Object) has(value, p) : Due.ARGUMENT;
      Due.due(35, what + ", in " + p, recipe, x -> x.holds(formula, one), so);
    }
    int lacking = lasts & ~value;
    Object lowest = lacking == 0 ? Due.NOTHING : (Object) Integer.numberOfTrailingZeros(lacking);
    Due.due(36, what, recipe, x -> x.against(formula), lowest);
    Due.due(44, what, recipe, x -> x.isSound(), true);
  }

  private static void needsNames(int promise, String method, OfTwo call) {
    for (int no : NO_NUMBERS) {
      Due.refused(promise, method + " of " + no + " and 0", FORK, x -> call.answer(x, no, 0), Due.INDEX);
      Due.refused(promise, method + " of 0 and " + no, FORK, x -> call.answer(x, 0, no), Due.INDEX);
      Due.refused(promise, method + " of " + no + " twice", FORK, x -> call.answer(x, no, no), Due.INDEX);
    }
    Due.refused(promise, method + " with neither", NONE, x -> call.answer(x, 0, 0), Due.INDEX);
    Due.refused(promise, method + " with conditions alone", Due.order(7), x -> call.answer(x, 0, 0), Due.INDEX);
    Due.Recipe twelve = then(Due.order(1), Due.names(12));
    Due.refused(promise, method + " of 12 of 12", twelve, x -> call.answer(x, 12, 0), Due.INDEX);
    Due.refused(promise, method + " of 12 of 12, as the other one", twelve, x -> call.answer(x, 11, 12), Due.INDEX);
  }

  private static void wrongNumbers() {
    needsNames(22, "valueIn", (x, n, m) -> x.valueIn(n, m));
    needsNames(23, "valueLike", (x, n, m) -> x.valueLike(n, m));
    needsNames(24, "forcesIn", (x, n, m) -> x.forcesIn(0, n, m));
    needsNames(25, "forcesLike", (x, n, m) -> x.forcesLike(0, n, m));
    for (int no : new int[] {Due.LEAST, -1, 3, 4, 7, 32, Due.MOST}) {
      Due.refused(24, "condition " + no, FORK, x -> x.forcesIn(no, 0, 1), Due.INDEX);
      Due.refused(25, "condition " + no, FORK, x -> x.forcesLike(no, 0, 1), Due.INDEX);
      Due.refused(24, "condition " + no + " and no name", FORK, x -> x.forcesIn(no, 4, -1), Due.INDEX);
      Due.refused(25, "condition " + no + " and no name", FORK, x -> x.forcesLike(no, 4, -1), Due.INDEX);
    }
    Due.refused(24, "no condition at all", Due.names(2), x -> x.forcesIn(0, 0, 1), Due.INDEX);
    Due.refused(25, "no condition at all", Due.names(2), x -> x.forcesLike(0, 0, 0), Due.INDEX);
  }

  private static void namesWithoutPairs() {
    atom("two without pairs, in", Due.of(Due.order(3, 1, 0, 2, 0), Due.names(2)), 'e', 0, 1, 0, 0, 0);
    atom("two without pairs, alike", Due.of(Due.order(3, 1, 0, 2, 0), Due.names(2)), '=', 0, 1, 6, 7, 7);
    atom("without pairs, in itself", FORK, 'e', 0, 0, 0, 0, 0);
    atom("without pairs, like itself", FORK, '=', 0, 0, 6, 7, 7);
    atom("one with pairs, in one without", FORK, 'e', 2, 0, 0, 0, 0);
    atom("one with pairs, like one without", FORK, '=', 2, 0, 0, 0, 0);
    atom("one without pairs, like one with", FORK, '=', 0, 2, 0, 0, 0);
    atom("one that is empty in a world, like one without pairs", FORK, '=', 1, 0, 4, 4, 4);
  }

  private static void aNameAndItself() {
    for (int name = 0; name < 4; name++) {
      atom("name " + name + " in itself, in a row", CHAIN, 'e', name, name, 0, 0, 0);
      atom("name " + name + " like itself, in a row", CHAIN, '=', name, name, 2, 3, 3);
      atom("name " + name + " in itself, in a fork", FORK, 'e', name, name, 0, 0, 0);
      atom("name " + name + " like itself, in a fork", FORK, '=', name, name, 6, 7, 7);
    }
  }

  private static void oneConditionAlone() {
    atom("in, by the only condition", ALONE, 'e', 0, 1, 1, 1, 1);
    atom("not in, by the only condition", ALONE, 'e', 1, 0, 0, 0, 0);
    atom("alike, by the only condition", ALONE, '=', 1, 1, 1, 1, 1);
    atom("unlike, by the only condition", ALONE, '=', 0, 1, 0, 0, 0);
    Due.Recipe law = then(ALONE, x -> x.atom('e', 0, 1), x -> x.not(0), x -> x.both('o', 1, 0),
        x -> x.both('a', 0, 1));
    judged("not, by the only condition", law, 1, 0, 0, 0);
    judged("the law of the middle, by the only condition", law, 2, 1, 1, 1);
    judged("both at once, by the only condition", law, 3, 0, 0, 0);
  }

  private static void noConditionAtAll() {
    Due.due(22, "no condition", Due.names(2), x -> x.valueIn(0, 1), 0);
    Due.due(22, "no condition, in itself", Due.names(2), x -> x.valueIn(1, 1), 0);
    Due.due(23, "no condition", Due.names(2), x -> x.valueLike(0, 1), 0);
    Due.due(23, "no condition, like itself", Due.names(2), x -> x.valueLike(1, 1), 0);
    judged("alike without conditions", EMPTY, 0, 0, 0, 0);
    judged("unlike without conditions", EMPTY, 1, 0, 0, 0);
    Due.refused(33, "no condition", EMPTY, x -> x.forces(0, 0), Due.INDEX);
    Due.refused(34, "no condition", EMPTY, x -> x.weakly(0, 0), Due.INDEX);
    Due.refused(35, "no world", EMPTY, x -> x.holds(0, 0), Due.ARGUMENT);
    Due.refused(36, "no world", EMPTY, x -> x.against(1), Due.NOTHING);
    Due.due(32, "each, without conditions", then(EMPTY, x -> x.bind('A', 0, 0, 0)), x -> x.value(2), 0);
    Due.due(32, "some, without conditions", then(EMPTY, x -> x.bind('E', 0, 0, 0)), x -> x.value(2), 0);
    Due.due(32, "a first condition after it was asked", then(EMPTY, x -> x.value(0), x -> x.condition()),
        x -> x.value(0), 1);
  }

  /** Being in another one, below the condition of a pair and at it, above it and beside it. */
  private static void inAnotherOne() {
    atom("in by a condition below all", CHAIN, 'e', 0, 1, 2, 3, 2);
    atom("in by the condition above all", CHAIN, 'e', 0, 2, 2, 3, 3);
    atom("in by one of two branches", FORK, 'e', 0, 1, 2, 2, 2);
    atom("in by both branches", FORK, 'e', 0, 3, 6, 7, 6);
    atom("in by the condition above both branches", FORK, 'e', 0, 2, 6, 7, 7);
    atom("in as far as it is like the name of the pair", CHAIN, 'e', 2, 3, 2, 3, 2);
    atom("in where it is unlike the name of the pair", CHAIN, 'e', 0, 3, 0, 0, 0);
    atom("the very name of the pair", CHAIN, 'e', 1, 3, 2, 3, 3);
    Due.Recipe three = then(Due.order(3, 1, 0, 2, 1), Due.names(2), Due.pairs(1, 0, 1));
    atom("in by the middle one of a row", three, 'e', 0, 1, 4, 7, 6);
    Due.Recipe far = then(Due.order(4, 1, 0, 2, 0, 3, 1), Due.names(2), Due.pairs(1, 0, 3, 0, 2));
    atom("in by the last ones below", far, 'e', 0, 1, 12, 15, 12);
    Due.Recipe onlyOne = then(Due.order(4, 1, 0, 2, 0, 3, 1), Due.names(2), Due.pairs(1, 0, 3));
    atom("in by the last one of a branch", onlyOne, 'e', 0, 1, 8, 10, 8);
  }

  private static void alike() {
    atom("alike in the only world of a row", CHAIN, '=', 1, 2, 2, 3, 2);
    atom("alike in the only world of a row, the other way round", CHAIN, '=', 2, 1, 2, 3, 2);
    atom("unlike in the only world of a row", CHAIN, '=', 0, 1, 0, 0, 0);
    atom("alike in one branch", FORK, '=', 1, 2, 2, 2, 2);
    atom("alike in the other branch", FORK, '=', 1, 0, 4, 4, 4);
    atom("alike in both branches", FORK, '=', 2, 3, 6, 7, 6);
    atom("alike in both branches, the other way round", FORK, '=', 3, 2, 6, 7, 6);
    Due.Recipe deep = then(FORK, Due.names(2), Due.pairs(4, 2, 0), Due.pairs(5, 3, 0));
    atom("alike as their names are", deep, '=', 4, 5, 6, 7, 6);
    Due.Recipe apart = then(FORK, Due.names(2), Due.pairs(4, 1, 0), Due.pairs(5, 2, 0));
    atom("alike as far as their names are", apart, '=', 4, 5, 2, 2, 2);
    Due.Recipe twice = then(FORK, Due.names(2), Due.pairs(4, 0, 0, 0, 1), Due.pairs(5, 0, 0));
    atom("alike, though one has a pair more", twice, '=', 4, 5, 6, 7, 7);
  }

  private static void orBelowAndAt() {
    Due.Recipe fork = then(FORK, x -> x.atom('e', 0, 1), x -> x.not(0), x -> x.both('o', 0, 1),
        x -> x.both('a', 0, 1), x -> x.not(2));
    judged("one of two branches", fork, 0, 2, 2, 2);
    judged("not of one branch", fork, 1, 4, 4, 4);
    judged("or, of each branch another one", fork, 2, 6, 7, 6);
    judged("and, of each branch another one", fork, 3, 0, 0, 0);
    judged("not, of what is so in each branch", fork, 4, 0, 0, 0);
    Due.Recipe row = then(CHAIN, x -> x.atom('e', 0, 1), x -> x.not(0), x -> x.both('o', 0, 1),
        x -> x.both('o', 0, 0), x -> x.both('a', 0, 0), x -> x.both('o', 1, 1));
    judged("not, of what is so below", row, 1, 0, 0, 0);
    judged("or, at the condition alone", row, 2, 2, 3, 2);
    judged("or, of one formula twice", row, 3, 2, 3, 2);
    judged("and, of one formula twice", row, 4, 2, 3, 2);
    judged("or, of two that are not so", row, 5, 0, 0, 0);
    Due.Recipe sure = then(FORK, x -> x.atom('e', 0, 2), x -> x.atom('e', 0, 1), x -> x.both('o', 0, 1),
        x -> x.both('o', 1, 0), x -> x.both('a', 0, 1));
    judged("or, of which the first one is forced", sure, 2, 6, 7, 7);
    judged("or, of which the second one is forced", sure, 3, 6, 7, 7);
    judged("and, of which one is forced in a branch", sure, 4, 2, 2, 2);
  }

  /** Depth 5 by the first formula of both alone, by the second one alone, and by both. */
  private static void deepBoth() {
    for (char kind : new char[] {'a', 'o'}) {
      for (int side = 1; side < 4; side++) {
        int one = side;
        Due.Recipe deep = then(FORK, x -> x.atom('e', 0, 2), x -> deepen(x, kind, one, 0));
        judged("so by depth 5, " + kind + " " + side, deep, 4, 6, 7, 7);
        Due.Recipe low = then(FORK, x -> x.atom('e', 0, 2), x -> x.atom('e', 0, 1), x -> deepen(x, kind, one, 1));
        Due.Recipe high = then(FORK, x -> x.atom('e', 0, 1), x -> x.atom('e', 0, 2), x -> deepen(x, kind, one, 1));
        boolean all = kind == 'o' || side == 3;
        judged("above one so in a branch, by depth 5, " + kind + " " + side, high, 5, all ? 6 : 2, all ? 7 : 2,
            all ? 7 : 2);
        boolean some = kind == 'o' && side < 3;
        judged("so in a branch by depth 5, " + kind + " " + side, low, 5, some ? 6 : 2, some ? 7 : 2, some ? 7 : 2);
      }
    }
  }

  /** Tells 4 formulas, each of the one ahead and of 0, or of the one ahead twice, up to depth 5. */
  private static void deepen(Genericwood x, char kind, int side, int last) {
    int made = last;
    for (int i = 0; i < 4; i++) {
      made = x.both(kind, side == 2 ? 0 : made, side == 1 ? 0 : made);
    }
  }

  private static void notBelow() {
    Due.Recipe row = then(CHAIN, x -> x.atom('e', 0, 1), x -> x.not(0), x -> x.not(1), x -> x.not(2),
        x -> x.not(3));
    judged("not", row, 1, 0, 0, 0);
    judged("not not, which is forced weakly where the formula is not", row, 2, 2, 3, 3);
    judged("not, three times", row, 3, 0, 0, 0);
    judged("not, four times", row, 4, 2, 3, 3);
    Due.Recipe fork = then(FORK, x -> x.atom('e', 0, 3), x -> x.not(0), x -> x.not(1));
    judged("not, of both branches", fork, 1, 0, 0, 0);
    judged("not not, of both branches", fork, 2, 6, 7, 7);
  }

  private static void someBelowAndAt() {
    Due.Recipe row = then(CHAIN, x -> x.atom('=', 100, 0), x -> x.bind('E', 0, 1, 0), x -> x.bind('E', 0, 2, 0),
        x -> x.bind('E', 0, 0, 0));
    judged("some, by a condition below", row, 1, 2, 3, 2);
    judged("some, by the condition itself", row, 2, 2, 3, 3);
    judged("some, of no pairs", row, 3, 0, 0, 0);
    Due.Recipe fork = then(FORK, x -> x.atom('=', 100, 0), x -> x.bind('E', 0, 3, 0), x -> x.bind('E', 0, 1, 0),
        x -> x.bind('E', 0, 2, 0), x -> x.not(0), x -> x.bind('E', 0, 3, 4));
    judged("some, by both branches", fork, 1, 6, 7, 6);
    judged("some, by one branch", fork, 2, 2, 2, 2);
    judged("some, by the condition above both", fork, 3, 6, 7, 7);
    judged("some, of which none is so", fork, 5, 0, 0, 0);
  }

  private static void eachBelow() {
    Due.Recipe row = then(CHAIN, x -> x.atom('=', 100, 0), x -> x.bind('A', 0, 1, 0), x -> x.bind('A', 0, 3, 0),
        x -> x.bind('A', 0, 0, 0), x -> x.atom('e', 0, 100), x -> x.bind('A', 0, 3, 4), x -> x.not(0),
        x -> x.bind('A', 0, 1, 6));
    judged("each, by a condition below", row, 1, 2, 3, 3);
    judged("each, of which one is not so", row, 2, 0, 0, 0);
    judged("each, of no pairs", row, 3, 2, 3, 3);
    judged("each, of which one is so at the condition below", row, 5, 2, 3, 2);
    judged("each, which is not so at the condition below alone", row, 7, 0, 0, 0);
    Due.Recipe fork = then(FORK, x -> x.atom('=', 100, 0), x -> x.bind('A', 0, 3, 0), x -> x.not(0),
        x -> x.bind('A', 0, 1, 2), x -> x.bind('A', 0, 2, 2));
    judged("each, by both branches", fork, 1, 6, 7, 7);
    judged("each, which fails in one branch", fork, 3, 4, 4, 4);
    judged("each, which fails above both", fork, 4, 0, 0, 0);
  }

  /** A bound that is a letter, letters bound twice, and letters that come back after another binder. */
  private static void letters() {
    // Standard names 0 to 5 of the codes 0, 1, 2, 3, 12 and 10.
    Due.Recipe made = then(Due.order(3, 1, 0, 2, 0), Due.standards(0, 1, 2, 3, 12, 10));
    Due.Recipe nested = then(made, x -> x.atom('=', 100, 0), x -> x.bind('E', 0, 100, 0),
        x -> x.bind('A', 0, 5, 1), x -> x.bind('A', 0, 4, 1));
    judged("a letter as its own bound, each has 0: in {1, 3}", nested, 2, 6, 7, 7);
    judged("a letter as its own bound, each has 0: in {2, 3}", nested, 3, 0, 0, 0);
    Due.Recipe other = then(made, x -> x.atom('e', 100, 101), x -> x.bind('A', 0, 101, 0),
        x -> x.bind('A', 1, 4, 1), x -> x.bind('E', 0, 101, 0), x -> x.not(3), x -> x.bind('E', 1, 4, 4));
    judged("another letter as the bound", other, 2, 6, 7, 7);
    judged("another letter as the bound, which has some", other, 5, 0, 0, 0);
    Due.Recipe back = then(made, x -> x.atom('=', 100, 1), x -> x.bind('E', 0, 2, 0), x -> x.both('a', 1, 0),
        x -> x.bind('E', 0, 3, 2), x -> x.bind('A', 0, 3, 2));
    judged("the letter stands for what it did, after it was bound again", back, 3, 6, 7, 7);
    judged("each one after it was bound again", back, 4, 0, 0, 0);
    Due.Recipe near = then(made, x -> x.atom('=', 100, 0), x -> x.bind('E', 0, 2, 0), x -> x.bind('E', 0, 1, 1),
        x -> x.bind('E', 0, 1, 0));
    judged("the nearest binder counts: {1} has no 0", near, 2, 0, 0, 0);
    judged("the only binder: {0} has 0", near, 3, 6, 7, 7);
    Due.Recipe four = then(made, x -> x.atom('e', 103, 102), x -> x.bind('E', 3, 102, 0), x -> x.bind('E', 2, 101, 1),
        x -> x.bind('E', 1, 100, 2), x -> x.bind('E', 0, 4, 3));
    judged("four letters, one in another one: {2, 3} goes too low", four, 4, 0, 0, 0);
    Due.Recipe unused = then(FORK, x -> x.atom('=', 0, 0), x -> x.bind('E', 3, 1, 0), x -> x.bind('A', 3, 1, 0));
    judged("some, with a letter that is nowhere", unused, 1, 2, 2, 2);
    judged("each, with a letter that is nowhere", unused, 2, 6, 7, 7);
  }

  private static void namesChangedAfterAFormulaWasTold() {
    Due.Recipe told = then(FORK, x -> x.atom('e', 0, 1), x -> x.atom('=', 100, 0), x -> x.bind('E', 0, 1, 1),
        x -> x.value(0), x -> x.value(2), x -> x.forces(0, 0), x -> x.weakly(0, 0), x -> x.holds(0, 1));
    judged("in, before", told, 0, 2, 2, 2);
    judged("in, a pair more", then(told, Due.pairs(1, 0, 0)), 0, 6, 7, 7);
    judged("some, a pair more", then(told, Due.pairs(1, 0, 0)), 2, 6, 7, 7);
    judged("in, a pair less", then(told, x -> x.unpair(1)), 0, 0, 0, 0);
    judged("some, a pair less", then(told, x -> x.unpair(1)), 2, 0, 0, 0);
    judged("in, a condition more, which is no branch", then(told, x -> x.condition()), 0, 2, 2, 2);
    judged("in, a condition below the branch", then(told, x -> x.condition(), x -> x.under(3, 1)), 0, 8, 10, 10);
    judged("in, both branches below 1", then(told, x -> x.under(2, 1)), 0, 4, 7, 6);
    Due.Recipe deep = then(FORK, Due.names(1), Due.pairs(4, 1, 0), x -> x.atom('e', 0, 4), x -> x.value(0),
        x -> x.isSound());
    judged("in, a name of a pair before", deep, 0, 4, 4, 4);
    judged("in, a name of a pair was changed", then(deep, x -> x.unpair(1)), 0, 6, 7, 7);
    Due.Recipe asked = then(FORK, x -> x.valueIn(0, 1), x -> x.valueLike(0, 1), x -> x.forcesIn(0, 0, 1),
        x -> x.forcesLike(0, 0, 1), x -> x.unpair(1));
    atom("in, asked, then a pair less", asked, 'e', 0, 1, 0, 0, 0);
    atom("alike, asked, then a pair less", asked, '=', 0, 1, 6, 7, 7);
    Due.Recipe more = then(FORK, x -> x.valueLike(0, 1), x -> x.forcesLike(0, 0, 1), x -> x.name());
    atom("a new name after others were asked, like itself", more, '=', 4, 4, 6, 7, 7);
    atom("a new name after others were asked, like one without pairs", more, '=', 0, 4, 6, 7, 7);
    atom("a new name after others were asked, in one with pairs", more, 'e', 4, 2, 6, 7, 7);
    Due.Recipe both = then(FORK, x -> x.valueIn(0, 1), x -> x.forcesIn(0, 0, 1), x -> x.condition(),
        Due.pairs(1, 0, 2));
    atom("a condition and a pair more after others were asked, in", both, 'e', 0, 1, 6, 7, 6);
    Due.Recipe split = then(FORK, x -> x.valueLike(2, 3), x -> x.forcesLike(0, 2, 3), x -> x.condition(),
        x -> x.name());
    atom("a condition and a name more after others were asked, alike", split, '=', 2, 3, 14, 15, 14);
    Due.Recipe kept = then(FORK, x -> x.valueIn(0, 1), x -> Due.answer(x, y -> y.pair(1, 0, 1)));
    atom("in, asked, then a pair refused", kept, 'e', 0, 1, 2, 2, 2);
  }

  private static void formulasThatAreNot() {
    Due.Recipe told = then(FORK, x -> x.atom('e', 0, 1), x -> x.atom('e', 100, 1));
    for (int no : new int[] {Due.LEAST, -1, 2, 3, 16, 32, Due.MOST}) {
      Due.refused(32, "formula " + no, told, x -> x.value(no), Due.INDEX);
      Due.refused(33, "formula " + no, told, x -> x.forces(0, no), Due.INDEX);
      Due.refused(34, "formula " + no, told, x -> x.weakly(0, no), Due.INDEX);
      Due.refused(35, "formula " + no, told, x -> x.holds(no, 1), Due.INDEX);
      Due.refused(35, "formula " + no + " in no world", told, x -> x.holds(no, 0), Due.INDEX);
      Due.refused(36, "formula " + no, told, x -> x.against(no), Due.INDEX);
    }
    for (int no : new int[] {Due.LEAST, -1, 3, 4, 7, 32, Due.MOST}) {
      Due.refused(33, "condition " + no, told, x -> x.forces(no, 0), Due.INDEX);
      Due.refused(34, "condition " + no, told, x -> x.weakly(no, 0), Due.INDEX);
      Due.refused(33, "condition " + no + " and a formula that is not closed", told, x -> x.forces(no, 1), Due.INDEX);
      Due.refused(34, "condition " + no + " and a formula that is not closed", told, x -> x.weakly(no, 1), Due.INDEX);
      Due.refused(33, "condition " + no + " and no formula", told, x -> x.forces(no, 2), Due.INDEX);
      Due.refused(34, "condition " + no + " and no formula", told, x -> x.weakly(no, 2), Due.INDEX);
      Due.refused(35, "world " + no, told, x -> x.holds(0, no), Due.ARGUMENT);
      Due.refused(35, "world " + no + " and a formula that is not closed", told, x -> x.holds(1, no),
          Due.OPERATION);
    }
    Due.refused(35, "a condition that is no last one", told, x -> x.holds(0, 0), Due.ARGUMENT);
    Due.refused(35, "a world that would be one with 32 less", told, x -> x.holds(0, 33), Due.ARGUMENT);
    Due.refused(32, "not closed", told, x -> x.value(1), Due.OPERATION);
    Due.refused(33, "not closed", told, x -> x.forces(0, 1), Due.OPERATION);
    Due.refused(34, "not closed", told, x -> x.weakly(0, 1), Due.OPERATION);
    Due.refused(35, "not closed", told, x -> x.holds(1, 1), Due.OPERATION);
    Due.refused(36, "not closed", told, x -> x.against(1), Due.OPERATION);
    Due.refused(36, "not closed, without conditions", then(Due.names(1), x -> x.atom('e', 0, 103)),
        x -> x.against(0), Due.OPERATION);
    Due.refused(33, "no formulas", FORK, x -> x.forces(0, 0), Due.INDEX);
    Due.refused(32, "a formula that was taken away", then(told, x -> x.clear()), x -> x.value(0), Due.INDEX);
  }

  private static void against() {
    Due.Recipe seven = then(Due.order(7), Due.names(2), Due.pairs(1, 0, 0, 0, 1, 0, 2, 0, 5),
        x -> x.atom('e', 0, 1), x -> x.not(0), x -> x.atom('e', 0, 0), x -> x.not(2));
    Due.due(36, "the lowest of 3", seven, x -> x.against(0), 3);
    Due.due(36, "the lowest of 4", seven, x -> x.against(1), 0);
    Due.due(36, "the lowest of all", seven, x -> x.against(2), 0);
    Due.refused(36, "so in all", seven, x -> x.against(3), Due.NOTHING);
    Due.Recipe tree = then(Due.order(7, 1, 0, 2, 0, 3, 0, 4, 0, 5, 0, 6, 0), Due.names(2),
        Due.pairs(1, 0, 1, 0, 2, 0, 3, 0, 4), x -> x.atom('e', 0, 1));
    Due.due(36, "the lowest of the last numbers", tree, x -> x.against(0), 5);
    Due.due(36, "the last number alone", then(tree, x -> x.under(5, 4)), x -> x.against(0), 6);
    Due.refused(36, "none any more", then(tree, x -> x.under(5, 4), x -> x.under(6, 4)), x -> x.against(0),
        Due.NOTHING);
  }

  public static void main(String[] args) {
    wrongNumbers();
    namesWithoutPairs();
    aNameAndItself();
    oneConditionAlone();
    noConditionAtAll();
    inAnotherOne();
    alike();
    orBelowAndAt();
    deepBoth();
    notBelow();
    someBelowAndAt();
    eachBelow();
    letters();
    namesChangedAfterAFormulaWasTold();
    formulasThatAreNot();
    against();
    Due.close();
  }
}
