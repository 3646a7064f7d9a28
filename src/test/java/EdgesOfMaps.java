import java.math.BigInteger;

/** The boundary cases of 'Maps', of the promises 37 to 39 and 41 to 44, and of runs of 512 calls. */
public final class EdgesOfMaps {
  private static final Due.Recipe NONE = Due.nothing();
  private static final Due.Recipe ONE = Due.order(1);
  /** 1 and 2 are below 0. */
  private static final Due.Recipe FORK = Due.order(3, 1, 0, 2, 0);
  /** Names 0, 1 = {0 by 1}, 2 = {0 by 1, 0 by 2}, 3 = {1 by 0} over the fork. */
  private static final Due.Recipe NAMED = then(FORK, Due.names(4), Due.pairs(1, 0, 1), Due.pairs(2, 0, 1, 0, 2),
      Due.pairs(3, 1, 0));
  /** How many calls make the full wood. */
  private static final int FULL_CALLS = 75;
  private static final int[] NO_NUMBERS = {Due.LEAST, -1, 4, 5, 7, 12, 32, Due.MOST};

  private static Due.Recipe then(Due.Recipe... steps) {
    return Due.of(steps);
  }

  private static Due.Recipe swaps(int... twos) {
    return x -> {
      for (int i = 0; i < twos.length; i += 2) x.swap(twos[i], twos[i + 1]);
    };
  }

  private static void swap() {
    for (int no : new int[] {Due.LEAST, -1, 3, 4, 7, 32, Due.MOST}) {
      Due.refused(37, "condition " + no, FORK, x -> x.swap(no, 0), Due.INDEX);
      Due.refused(37, "other condition " + no, FORK, x -> x.swap(0, no), Due.INDEX);
      Due.refused(37, "condition " + no + " with itself", FORK, x -> x.swap(no, no), Due.INDEX);
      Due.refused(37, "condition " + no + ", a map that is not the first", then(FORK, swaps(0, 1)),
          x -> x.swap(2, no), Due.INDEX);
    }
    Due.refused(37, "no condition", NONE, x -> x.swap(0, 0), Due.INDEX);
    Due.refused(37, "condition 7 of 7", Due.order(7), x -> x.swap(7, 6), Due.INDEX);
    for (int p = 0; p < 3; p++) {
      int one = p;
      Due.due(37, one + " with itself", FORK, x -> x.swap(one, one), true);
      Due.due(37, one + " with itself changes nothing", then(FORK, swaps(p, p)), x -> x.goes(one), one);
      Due.due(37, one + " with itself, a map that does not keep the order", then(FORK, swaps(0, 1)),
          x -> x.swap(one, one), false);
    }
    Due.due(37, "the only one with itself", ONE, x -> x.swap(0, 0), true);
    Due.due(37, "two branches", FORK, x -> x.swap(1, 2), true);
    Due.due(37, "the other way round", FORK, x -> x.swap(2, 1), true);
    Due.due(37, "one below the other", FORK, x -> x.swap(0, 1), false);
    Due.due(37, "does not keep the order, and does again", then(FORK, swaps(0, 1)), x -> x.swap(0, 1), true);
    Due.due(37, "again by the other way round", then(FORK, swaps(0, 1)), x -> x.swap(1, 0), true);
    Due.due(37, "again by other ones", then(FORK, swaps(0, 1, 1, 2)), x -> x.swap(0, 2), true);
    Due.due(37, "two beside each other", Due.order(2), x -> x.swap(0, 1), true);
    Due.due(37, "one above 0 for one beside it", Due.order(3, 0, 1), x -> x.swap(1, 2), false);
    Due.due(37, "one below 0 for one beside it", Due.order(3, 1, 0), x -> x.swap(1, 2), false);
    Due.due(37, "0 for one beside both", Due.order(3, 1, 0), x -> x.swap(0, 2), false);
    Due.due(37, "any of 7 beside each other", then(Due.order(7), swaps(0, 1, 1, 2, 2, 3, 3, 4, 4, 5)),
        x -> x.swap(5, 6), true);
    Due.due(37, "the ends of 7 in a row", Due.order(7, 1, 0, 2, 1, 3, 2, 4, 3, 5, 4, 6, 5), x -> x.swap(0, 6), false);
    Due.due(37, "only one of two branches moved with what is below it", Due.order(5, 1, 0, 2, 0, 3, 1, 4, 2),
        x -> x.swap(1, 2), false);
    Due.due(37, "both branches moved with what is below them", then(Due.order(5, 1, 0, 2, 0, 3, 1, 4, 2), swaps(1, 2)),
        x -> x.swap(3, 4), true);
  }

  private static void goes() {
    for (int no : new int[] {Due.LEAST, -1, 3, 4, 7, 32, Due.MOST}) {
      Due.refused(38, "condition " + no, FORK, x -> x.goes(no), Due.INDEX);
    }
    Due.refused(38, "no condition", NONE, x -> x.goes(0), Due.INDEX);
    Due.refused(38, "condition 7 of 7", Due.order(7), x -> x.goes(7), Due.INDEX);
    for (int p = 0; p < 7; p++) {
      int one = p;
      Due.due(38, one + " to itself at first", Due.order(7), x -> x.goes(one), one);
    }
    Due.due(38, "exchanged", then(FORK, swaps(0, 2)), x -> x.goes(0), 2);
    Due.due(38, "exchanged, the other one", then(FORK, swaps(0, 2)), x -> x.goes(2), 0);
    Due.due(38, "not exchanged", then(FORK, swaps(0, 2)), x -> x.goes(1), 1);
    Due.due(38, "exchanged twice", then(FORK, swaps(0, 2, 0, 2)), x -> x.goes(0), 0);
    Due.due(38, "where they go is exchanged, of three: 0", then(FORK, swaps(0, 1, 1, 2)), x -> x.goes(0), 1);
    Due.due(38, "where they go is exchanged, of three: 1", then(FORK, swaps(0, 1, 1, 2)), x -> x.goes(1), 2);
    Due.due(38, "where they go is exchanged, of three: 2", then(FORK, swaps(0, 1, 1, 2)), x -> x.goes(2), 0);
    Due.due(38, "a condition that came later goes to itself", then(FORK, swaps(0, 2), Due.order(1)),
        x -> x.goes(3), 3);
    Due.due(38, "what came before goes where it did", then(FORK, swaps(0, 2), Due.order(1)), x -> x.goes(0), 2);
  }

  private static void isFixed() {
    for (int no : NO_NUMBERS) {
      Due.refused(39, "name " + no, NAMED, x -> x.isFixed(no), Due.INDEX);
      Due.refused(39, "name " + no + ", a map that does not keep the order", then(NAMED, swaps(0, 1)),
          x -> x.isFixed(no), Due.INDEX);
    }
    Due.refused(39, "no names", FORK, x -> x.isFixed(0), Due.INDEX);
    Due.refused(39, "name 12 of 12", then(ONE, Due.names(12)), x -> x.isFixed(12), Due.INDEX);
    Due.due(39, "no condition", Due.names(1), x -> x.isFixed(0), true);
    for (int name = 0; name < 4; name++) {
      int one = name;
      Due.due(39, one + ", the first map", NAMED, x -> x.isFixed(one), true);
      Due.due(39, one + ", a condition exchanged with itself", then(NAMED, swaps(1, 1)), x -> x.isFixed(one), true);
      Due.refused(39, one + ", a map that does not keep the order", then(NAMED, swaps(0, 1)),
          x -> x.isFixed(one), Due.OPERATION);
      Due.due(39, one + ", a map that keeps it again", then(NAMED, swaps(0, 1, 0, 1)), x -> x.isFixed(one), true);
      boolean fixed = name == 0 || name == 2;
      Due.due(39, one + ", both branches exchanged", then(NAMED, swaps(1, 2)), x -> x.isFixed(one), fixed);
      Due.due(39, one + ", and exchanged again", then(NAMED, swaps(1, 2, 2, 1)), x -> x.isFixed(one), true);
      Due.refused(39, one + ", the order told after the map", then(NAMED, swaps(1, 2), Due.order(1, 3, 1)),
          x -> x.isFixed(one), Due.OPERATION);
    }
    Due.due(39, "a name that was changed after the map", then(NAMED, swaps(1, 2), Due.pairs(1, 0, 2)),
        x -> x.isFixed(1), true);
    Due.due(39, "and one that has it in a pair", then(NAMED, swaps(1, 2), Due.pairs(1, 0, 2)),
        x -> x.isFixed(3), true);
    Due.due(39, "a standard name", then(FORK, Due.standards(15), swaps(1, 2)), x -> x.isFixed(4), true);
    Due.due(39, "alike, though its pairs go elsewhere",
        then(FORK, Due.names(2), Due.pairs(1, 0, 0, 0, 1), swaps(1, 2)), x -> x.isFixed(1), true);
    Due.due(39, "unlike in the last of three worlds alone",
        then(Due.order(4, 1, 0, 2, 0, 3, 0), Due.names(2), Due.pairs(1, 0, 1, 0, 2), swaps(2, 3)),
        x -> x.isFixed(1), false);
    Due.due(39, "three moved round", then(Due.order(4, 1, 0, 2, 0, 3, 0), Due.names(2),
        Due.pairs(1, 0, 1, 0, 2, 0, 3), swaps(1, 2, 2, 3)), x -> x.isFixed(1), true);
    Due.due(39, "it asks, and changes nothing", then(NAMED, swaps(1, 2), x -> x.isFixed(1)),
        x -> x.becomes(1, 1), 1);
  }

  /** The map moves names where it is asked whether they are fixed, and nowhere else. */
  private static void movesNothingElse() {
    Due.Recipe moved = then(NAMED, x -> x.atom('e', 0, 1), swaps(1, 2));
    Due.due(21, "becomes, after a map", moved, x -> x.becomes(1, 1), 1);
    Due.due(22, "valueIn, after a map", moved, x -> x.valueIn(0, 1), 2);
    Due.due(23, "valueLike, after a map", moved, x -> x.valueLike(0, 1), 4);
    Due.due(24, "forcesIn, after a map", moved, x -> x.forcesIn(1, 0, 1), true);
    Due.due(25, "forcesLike, after a map", moved, x -> x.forcesLike(2, 0, 1), true);
    Due.due(32, "value, after a map", moved, x -> x.value(0), 2);
    Due.due(33, "forces, after a map", moved, x -> x.forces(1, 0), true);
    Due.due(34, "weakly, after a map", moved, x -> x.weakly(1, 0), true);
    Due.due(35, "holds, after a map", moved, x -> x.holds(0, 1), true);
    Due.due(36, "against, after a map", moved, x -> x.against(0), 2);
    Due.due(13, "cut, after a map", moved, x -> x.cut(1), 2);
    Due.due(26, "a mixture, after a map", moved, x -> x.becomes(x.mix(1, 1, 0, 2), 1), 1);
  }

  /** The sum of the document, in numbers without end, from the steps that it adds. */
  private static BigInteger endless(int... steps) {
    BigInteger sum = BigInteger.valueOf(7);
    for (int step : steps) sum = sum.multiply(BigInteger.valueOf(31)).add(BigInteger.valueOf(step));
    return sum;
  }

  private static void sum(String what, Due.Recipe recipe, boolean wraps, int... steps) {
    BigInteger sum = endless(steps);
    Due.due(41, what, recipe, x -> x.checksum(), sum.longValue());
    Due.compare(41, what + ", wraps around", sum.bitLength() > 63, wraps);
  }

  private static void checksum() {
    sum("nothing", NONE, false, 0);
    Due.due(41, "nothing, in figures", NONE, x -> x.checksum(), 217L);
    sum("one condition", ONE, false, 1, 0);
    sum("one name", Due.names(1), false, 0, 0);
    sum("one formula", x -> x.atom('=', 100, 100), false, 1);
    sum("16 formulas", x -> {
      for (int i = 0; i < 16; i++) x.atom('=', 100, 100);
    }, false, 16);
    sum("all that is below, itself too", FORK, false, 7, 2, 4, 0);
    sum("7 conditions", Due.order(7), false, 1, 2, 4, 8, 16, 32, 64, 0);
    sum("names and pairs", NAMED, false, 7, 2, 4, 0, 1, 16, 1, 16, 32, 2, 1, 0);
    sum("just not around", then(FORK, Due.names(8)), false, 7, 2, 4, 0, 0, 0, 0, 0, 0, 0, 0, 0);
    sum("just around", then(FORK, Due.names(9)), true, 7, 2, 4, 0, 0, 0, 0, 0, 0, 0, 0, 0, 0);
    sum("12 names without conditions", Due.names(12), true, 0, 0, 0, 0, 0, 0, 0, 0, 0, 0, 0, 0, 0);
    sum("far around", then(Due.order(7), Due.names(12), Due.pairs(11, 10, 6, 10, 5, 9, 6, 0, 3)), true, 1, 2, 4, 8, 16,
        32, 64, 0, 0, 0, 0, 0, 0, 0, 0, 0, 0, 0, 1, 106, 90, 105, 48, 0);
    sum("the map counts for nothing", then(FORK, swaps(0, 1)), false, 7, 2, 4, 0);
  }

  private static void shares() {
    Due.refused(42, "no conditions", NONE, x -> x.lastShare(), Due.NOTHING);
    Due.refused(42, "no conditions, but names", Due.names(3), x -> x.lastShare(), Due.NOTHING);
    Due.due(42, "one", ONE, x -> x.lastShare(), 1f);
    Due.due(42, "7 beside each other", Due.order(7), x -> x.lastShare(), 1f);
    Due.due(42, "7 in a row", Due.order(7, 1, 0, 2, 1, 3, 2, 4, 3, 5, 4, 6, 5), x -> x.lastShare(), 1f / 7f);
    Due.due(42, "6 of 7", Due.order(7, 1, 0, 2, 0, 3, 0, 4, 0, 5, 0, 6, 0), x -> x.lastShare(), 6f / 7f);
    Due.due(42, "2 of 3", FORK, x -> x.lastShare(), 2f / 3f);
    Due.refused(43, "no names", NONE, x -> x.meanRank(), Due.NOTHING);
    Due.refused(43, "no names, but conditions", Due.order(7), x -> x.meanRank(), Due.NOTHING);
    Due.due(43, "one", Due.names(1), x -> x.meanRank(), 0.0);
    Due.due(43, "12 without pairs", Due.names(12), x -> x.meanRank(), 0.0);
    Due.due(43, "one pair of 12", then(ONE, Due.names(12), Due.pairs(11, 10, 0)), x -> x.meanRank(), 1.0 / 12.0);
    Due.due(43, "all standard names that fit", then(ONE, Due.standards(15, 14, 13, 12, 11, 10, 9, 8)),
        x -> x.meanRank(), 29.0 / 12.0);
    Due.due(43, "3 of 4", then(ONE, Due.standards(4)), x -> x.meanRank(), 6.0 / 4.0);
  }

  private static void isSound() {
    Due.due(44, "nothing", NONE, x -> x.isSound(), true);
    Due.due(44, "conditions alone", FORK, x -> x.isSound(), true);
    Due.due(44, "names alone", Due.names(12), x -> x.isSound(), true);
    Due.due(44, "names and conditions", NAMED, x -> x.isSound(), true);
    Due.due(44, "a formula that is not closed", then(NAMED, x -> x.atom('e', 100, 101)), x -> x.isSound(), true);
    Due.due(44, "a formula that is not closed, without names", x -> x.atom('e', 100, 101), x -> x.isSound(), true);
    Due.due(44, "a formula that is not closed, with conditions alone", then(FORK, x -> x.atom('=', 100, 101)),
        x -> x.isSound(), true);
    Due.due(44, "a formula without conditions", then(Due.names(1), x -> x.atom('=', 0, 0)), x -> x.isSound(), true);
    Due.due(44, "a map that does not keep the order", then(NAMED, swaps(0, 1)), x -> x.isSound(), true);
    Due.due(44, "standard names that are not below 0 everywhere by now", then(ONE, Due.standards(15), Due.order(1)),
        x -> x.isSound(), true);
    Due.due(44, "all there can be", x -> full(x), x -> x.isSound(), true);
  }

  /** 7 conditions, 12 names, 16 formulas of up to depth 5. */
  private static void full(Genericwood x) {
    then(Due.order(7, 1, 0, 2, 0, 3, 1, 4, 1, 5, 2, 6, 2), Due.standards(3), Due.names(9)).make(x);
    for (int n = 3; n < 12; n++) {
      for (int p = 0; p < 4; p++) x.pair(n, n < 6 ? 0 : n < 9 ? n - 3 : n < 11 ? 1 : 8, (n + p) % 7);
    }
    x.atom('e', 100, 101);
    x.atom('=', 100, 101);
    x.both('o', 0, 1);
    x.both('a', 0, 1);
    x.bind('E', 0, 101, 2);
    x.bind('A', 0, 101, 3);
    x.bind('A', 1, 11, 4);
    x.bind('E', 1, 10, 5);
    x.not(6);
    x.not(7);
    x.both('o', 6, 7);
    x.bind('E', 1, 8, 4);
    x.atom('e', 0, 11);
    x.not(12);
    x.both('o', 12, 13);
    x.bind('A', 2, 9, 14);
  }

  /** Of 512 calls each answers as the same call of a new object in the same state does. */
  private static void longRuns() {
    Genericwood x = new Genericwood();
    full(x);
    Object sum = x.checksum();
    Object value = x.value(10);
    int calls = FULL_CALLS + 2;
    boolean same = true;
    for (; calls + 2 <= 512; calls += 2) same &= value.equals(x.value(10)) && sum.equals(x.checksum());
    if (calls < 512) same &= x.isSound();
    Due.compare(44, "512 calls that ask", same, true);
    Due.compare(32, "a value after 512 calls", value, Due.wood(y -> full(y)).value(10));
    soundAllTheTime();
    changesAllTheTime();
    refusedAllTheTime();
  }

  private static void soundAllTheTime() {
    Genericwood x = Due.wood(y -> full(y));
    boolean same = true;
    for (int call = FULL_CALLS; call < 512; call++) same &= x.isSound();
    Due.compare(44, "sound at each of 512 calls", same, true);
  }

  /** Pairs come and go, formulas are told and taken away, the map is moved there and back. */
  private static void changesAllTheTime() {
    Genericwood x = Due.wood(NAMED);
    int calls = 3 + 2 + 4 + 4;
    boolean same = true;
    for (; calls + 9 <= 511; calls += 9) {
      same &= x.pair(1, 0, 2) == 2 && x.atom('e', 0, 1) == 0 && x.value(0) == 6 && x.unpair(1) == 1;
      same &= x.value(0) == 2 && !x.swap(0, 1) && x.swap(1, 0) && x.clear() == 1 && x.valueLike(0, 1) == 4;
    }
    for (; calls < 511; calls++) same &= x.rank(3) == 2;
    Due.compare(17, "changed there and back by 511 calls", same, true);
    Due.compare(41, "the sum by the 512th call", x.checksum(), Due.wood(NAMED).checksum());
  }

  private static void refusedAllTheTime() {
    Genericwood x = Due.wood(NAMED);
    boolean same = true;
    for (int calls = 3 + 2 + 4 + 4; calls < 511; calls++) {
      int call = calls;
      same &= Due.answer(x, y -> y.pair(call, 0, 0)) == Due.INDEX;
    }
    Due.compare(17, "refused by each of 511 calls", same, true);
    Due.compare(41, "the sum by the 512th call, after those", x.checksum(), Due.wood(NAMED).checksum());
  }

  public static void main(String[] args) {
    swap();
    goes();
    isFixed();
    movesNothingElse();
    checksum();
    shares();
    isSound();
    longRuns();
    Due.close();
  }
}
