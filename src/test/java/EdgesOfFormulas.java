/** The boundary cases of 'Formulas', and of the promises 27 to 31 and 40. */
public final class EdgesOfFormulas {
  private static final Due.Recipe NONE = Due.nothing();
  private static final Due.Recipe TWELVE = Due.of(Due.order(1), Due.names(12));
  /** Four names; the formulas 0 and 1 of two terms, with the letters 0 and 3 free in 1. */
  private static final Due.Recipe TWO =
      then(Due.order(1), Due.names(4), x -> x.atom('e', 0, 1), x -> x.atom('=', 100, 103));
  /** The formulas 0 to 4 have the depths 1 to 5. */
  private static final Due.Recipe DEEP = then(Due.order(1), Due.names(4), x -> x.atom('e', 0, 1),
      x -> x.not(0), x -> x.not(1), x -> x.not(2), x -> x.not(3));
  private static final Due.Recipe SIXTEEN = then(DEEP, x -> atoms(x, 11));
  private static final int[] NO_TERMS = {Due.LEAST, -1, 4, 12, 99, 104, 105, 132, 200, Due.MOST};
  private static final int[] NO_FORMULAS = {Due.LEAST, -1, 5, 6, 16, 32, 100, Due.MOST};

  private static Due.Recipe then(Due.Recipe... steps) {
    return Due.of(steps);
  }

  private static void atoms(Genericwood x, int count) {
    for (int i = 0; i < count; i++) x.atom('=', 0, 0);
  }

  /** Kinds, among all characters, that are none for a call; the call is given two that are. */
  private static char[] kindsBut(char one, char other) {
    String kinds = "e=aonAEnNO\0 !\n'0\u00e5\u0145\uff45\uffff";
    StringBuilder left = new StringBuilder();
    for (char kind : kinds.toCharArray()) if (kind != one && kind != other) left.append(kind);
    return left.toString().toCharArray();
  }

  private static void kindsOfAtom() {
    for (char kind : kindsBut('e', '=')) {
      String what = "kind " + (int) kind;
      Due.refused(27, what, TWO, x -> x.atom(kind, 0, 1), Due.ARGUMENT);
      Due.refused(27, what + " with 16 formulas", SIXTEEN, x -> x.atom(kind, 0, 1), Due.ARGUMENT);
      Due.refused(27, what + " of no term", TWO, x -> x.atom(kind, 99, 104), Due.ARGUMENT);
    }
    Due.due(27, "kind e", TWO, x -> x.atom('e', 0, 1), 2);
    Due.due(27, "kind =", TWO, x -> x.atom('=', 0, 1), 2);
  }

  private static void kindsOfBoth() {
    for (char kind : kindsBut('a', 'o')) {
      String what = "kind " + (int) kind;
      Due.refused(28, what, TWO, x -> x.both(kind, 0, 1), Due.ARGUMENT);
      Due.refused(28, what + " with 16 formulas", SIXTEEN, x -> x.both(kind, 0, 1), Due.ARGUMENT);
      Due.refused(28, what + " above depth 5", DEEP, x -> x.both(kind, 4, 4), Due.ARGUMENT);
      Due.refused(28, what + " of no formula", TWO, x -> x.both(kind, 0, 2), Due.INDEX);
    }
    Due.due(28, "kind a", TWO, x -> x.both('a', 0, 1), 2);
    Due.due(28, "kind o", TWO, x -> x.both('o', 0, 1), 2);
  }

  private static void kindsOfBind() {
    for (char kind : kindsBut('A', 'E')) {
      String what = "kind " + (int) kind;
      Due.refused(30, what, TWO, x -> x.bind(kind, 0, 1, 1), Due.ARGUMENT);
      Due.refused(30, what + " with 16 formulas", SIXTEEN, x -> x.bind(kind, 0, 1, 0), Due.ARGUMENT);
      Due.refused(30, what + " above depth 5", DEEP, x -> x.bind(kind, 0, 1, 4), Due.ARGUMENT);
      Due.refused(30, what + " of no formula", TWO, x -> x.bind(kind, 0, 1, 2), Due.INDEX);
    }
    Due.due(30, "kind A", TWO, x -> x.bind('A', 0, 1, 1), 2);
    Due.due(30, "kind E", TWO, x -> x.bind('E', 0, 1, 1), 2);
  }

  private static void terms() {
    for (int no : NO_TERMS) {
      Due.refused(27, "term " + no, TWO, x -> x.atom('e', no, 0), Due.ARGUMENT);
      Due.refused(27, "other term " + no, TWO, x -> x.atom('=', 100, no), Due.ARGUMENT);
      Due.refused(27, "term " + no + " twice", TWO, x -> x.atom('=', no, no), Due.ARGUMENT);
      Due.refused(27, "term " + no + " with 16 formulas", SIXTEEN, x -> x.atom('e', 0, no), Due.ARGUMENT);
      Due.refused(30, "bound " + no, TWO, x -> x.bind('A', 0, no, 1), Due.ARGUMENT);
      Due.refused(30, "bound " + no + " with 16 formulas", SIXTEEN, x -> x.bind('E', 0, no, 0), Due.ARGUMENT);
      Due.refused(30, "bound " + no + " above depth 5", DEEP, x -> x.bind('E', 0, no, 4), Due.ARGUMENT);
      Due.refused(30, "bound " + no + " of no formula", TWO, x -> x.bind('E', 0, no, 2), Due.INDEX);
    }
    for (int letter = 100; letter < 104; letter++) {
      int term = letter;
      int bit = 1 << letter - 100;
      Due.due(31, "term " + term, TWO, x -> x.free(x.atom('e', term, 0)), bit);
      Due.due(31, "other term " + term, TWO, x -> x.free(x.atom('=', 0, term)), bit);
      Due.due(31, "term " + term + " twice", TWO, x -> x.free(x.atom('=', term, term)), bit);
      Due.due(31, "term " + term + " without names", NONE, x -> x.free(x.atom('=', term, term)), bit);
      Due.due(31, "bound " + term, TWO, x -> x.free(x.bind('A', 0, term, 0)), bit);
    }
    Due.refused(27, "a name, without names", NONE, x -> x.atom('e', 0, 100), Due.ARGUMENT);
    Due.refused(30, "a name as the bound, without names", then(NONE, x -> x.atom('e', 100, 100)),
        x -> x.bind('A', 0, 0, 0), Due.ARGUMENT);
    Due.due(27, "the twelfth name", TWELVE, x -> x.atom('e', 11, 11), 0);
    Due.refused(27, "a thirteenth name", TWELVE, x -> x.atom('e', 12, 11), Due.ARGUMENT);
    Due.refused(27, "a thirteenth name as the other term", TWELVE, x -> x.atom('e', 11, 12), Due.ARGUMENT);
    Due.due(30, "the twelfth name as the bound", then(TWELVE, x -> x.atom('e', 11, 11)),
        x -> x.bind('A', 0, 11, 0), 1);
    Due.due(27, "the same name twice", TWO, x -> x.atom('=', 3, 3), 2);
    Due.due(27, "a name that is there by now", then(TWO, Due.names(1)), x -> x.atom('=', 4, 0), 2);
  }

  private static void letters() {
    for (int no : new int[] {Due.LEAST, -1, 4, 5, 31, 32, 100, 103, Due.MOST}) {
      Due.refused(30, "letter " + no, TWO, x -> x.bind('A', no, 0, 1), Due.ARGUMENT);
      Due.refused(30, "letter " + no + " above depth 5", DEEP, x -> x.bind('E', no, 0, 4), Due.ARGUMENT);
      Due.refused(30, "letter " + no + " with 16 formulas", SIXTEEN, x -> x.bind('E', no, 0, 0), Due.ARGUMENT);
      Due.refused(30, "letter " + no + " of no formula", TWO, x -> x.bind('E', no, 0, 2), Due.INDEX);
    }
    int[] left = {8, 9, 9, 1};
    for (int letter = 0; letter < 4; letter++) {
      int one = letter;
      Due.due(30, "letter " + one, TWO, x -> x.bind('A', one, 0, 1), 2);
      Due.due(31, "letter " + one + " bound in 1", TWO, x -> x.free(x.bind('E', one, 0, 1)), left[one]);
    }
  }

  private static void free() {
    for (int no : NO_FORMULAS) {
      Due.refused(31, "formula " + no, DEEP, x -> x.free(no), Due.INDEX);
    }
    Due.refused(31, "no formulas", NONE, x -> x.free(0), Due.INDEX);
    Due.refused(31, "formula 16 of 16", SIXTEEN, x -> x.free(16), Due.INDEX);
    Due.due(31, "formula 15 of 16", SIXTEEN, x -> x.free(15), 0);
    Due.due(31, "no letter", TWO, x -> x.free(0), 0);
    Due.due(31, "two letters", TWO, x -> x.free(1), 9);
    Due.due(31, "all letters", then(TWO, x -> x.atom('e', 101, 102)), x -> x.free(x.both('a', 1, 2)), 15);
    Due.due(31, "of both, the first one's", TWO, x -> x.free(x.both('o', 1, 0)), 9);
    Due.due(31, "of both, the second one's", TWO, x -> x.free(x.both('a', 0, 1)), 9);
    Due.due(31, "of not", TWO, x -> x.free(x.not(1)), 9);
    Due.due(31, "one bound, one left", TWO, x -> x.free(x.bind('A', 0, 0, 1)), 8);
    Due.due(31, "a letter bound that is nowhere", TWO, x -> x.free(x.bind('A', 1, 0, 1)), 9);
    Due.due(31, "a letter bound twice", then(TWO, x -> x.bind('A', 0, 1, 1)), x -> x.free(x.bind('E', 0, 2, 2)), 8);
    Due.due(31, "a letter as its own bound", TWO, x -> x.free(x.bind('A', 0, 100, 1)), 9);
    Due.due(31, "a letter as its own bound of a formula without it", TWO, x -> x.free(x.bind('A', 0, 100, 0)), 1);
    Due.due(31, "a letter as its own bound, bound around that", then(TWO, x -> x.bind('A', 3, 103, 1)),
        x -> x.free(x.bind('A', 3, 0, 2)), 1);
    Due.due(31, "another letter as the bound", TWO, x -> x.free(x.bind('A', 0, 102, 1)), 12);
    Due.due(31, "the other letter of it as the bound", TWO, x -> x.free(x.bind('E', 3, 100, 1)), 1);
    Due.due(31, "bound on one side alone", then(TWO, x -> x.bind('A', 0, 0, 1)), x -> x.free(x.both('a', 2, 1)), 9);
    Due.due(31, "closed by two binders", then(TWO, x -> x.bind('A', 0, 0, 1)), x -> x.free(x.bind('E', 3, 0, 2)), 0);
    Due.due(32, "a formula that is closed is valued", then(TWO, x -> x.bind('A', 0, 0, 1)),
        x -> x.value(x.bind('E', 3, 0, 2)), 0);
    Due.due(32, "one of which the own bound is free is not", then(TWO, x -> x.bind('A', 0, 100, 0)),
        x -> x.value(2), Due.OPERATION);
  }

  private static void depths() {
    Due.due(29, "depth 5", then(TWO, x -> x.not(0), x -> x.not(2), x -> x.not(3)), x -> x.not(4), 5);
    Due.refused(29, "depth 6", DEEP, x -> x.not(4), Due.OPERATION);
    for (char kind : new char[] {'a', 'o'}) {
      Due.due(28, "depth 5, " + kind, DEEP, x -> x.both(kind, 3, 3), 5);
      Due.due(28, "depth 5 by the first one, " + kind, DEEP, x -> x.both(kind, 3, 0), 5);
      Due.due(28, "depth 5 by the second one, " + kind, DEEP, x -> x.both(kind, 0, 3), 5);
      Due.refused(28, "depth 6 by the first one, " + kind, DEEP, x -> x.both(kind, 4, 0), Due.OPERATION);
      Due.refused(28, "depth 6 by the second one, " + kind, DEEP, x -> x.both(kind, 0, 4), Due.OPERATION);
      Due.refused(28, "depth 6 by both, " + kind, DEEP, x -> x.both(kind, 4, 4), Due.OPERATION);
      Due.refused(29, "depth 6 above depth 5, " + kind, then(DEEP, x -> x.both(kind, 0, 3)), x -> x.not(5),
          Due.OPERATION);
      Due.due(29, "depth 3 above depth 2, " + kind, then(DEEP, x -> x.both(kind, 0, 0)), x -> x.not(5), 6);
    }
    for (char kind : new char[] {'A', 'E'}) {
      Due.due(30, "depth 5, " + kind, DEEP, x -> x.bind(kind, 0, 0, 3), 5);
      Due.due(30, "depth 5 with a letter as the bound, " + kind, DEEP, x -> x.bind(kind, 0, 100, 3), 5);
      Due.refused(30, "depth 6, " + kind, DEEP, x -> x.bind(kind, 0, 0, 4), Due.OPERATION);
      Due.refused(29, "depth 6 above depth 5, " + kind, then(DEEP, x -> x.bind(kind, 0, 0, 3)), x -> x.not(5),
          Due.OPERATION);
    }
    Due.due(29, "a formula of depth 5 is valued", then(DEEP, Due.pairs(1, 0, 0)), x -> x.value(4), 1);
    Due.refused(29, "depth 6, with 16 formulas", SIXTEEN, x -> x.not(4), Due.OPERATION);
    Due.refused(28, "depth 6, with 16 formulas", SIXTEEN, x -> x.both('a', 0, 4), Due.OPERATION);
    Due.refused(30, "depth 6, with 16 formulas", SIXTEEN, x -> x.bind('A', 0, 0, 4), Due.OPERATION);
  }

  private static void formulasThatAreNone() {
    for (int no : NO_FORMULAS) {
      Due.refused(28, "formula " + no, DEEP, x -> x.both('a', no, 0), Due.INDEX);
      Due.refused(28, "other formula " + no, DEEP, x -> x.both('o', 0, no), Due.INDEX);
      Due.refused(28, "formula " + no + " twice", DEEP, x -> x.both('o', no, no), Due.INDEX);
      Due.refused(28, "other formula " + no + ", and one of depth 5", DEEP, x -> x.both('o', 4, no), Due.INDEX);
      Due.refused(29, "formula " + no, DEEP, x -> x.not(no), Due.INDEX);
      Due.refused(30, "formula " + no, DEEP, x -> x.bind('A', 0, 0, no), Due.INDEX);
    }
    Due.refused(28, "formula 16 of 16", SIXTEEN, x -> x.both('a', 16, 0), Due.INDEX);
    Due.refused(28, "other formula 16 of 16", SIXTEEN, x -> x.both('a', 0, 16), Due.INDEX);
    Due.refused(29, "formula 16 of 16", SIXTEEN, x -> x.not(16), Due.INDEX);
    Due.refused(30, "formula 16 of 16", SIXTEEN, x -> x.bind('A', 0, 0, 16), Due.INDEX);
    Due.refused(28, "no formulas", Due.names(1), x -> x.both('a', 0, 0), Due.INDEX);
    Due.refused(29, "no formulas", Due.names(1), x -> x.not(0), Due.INDEX);
    Due.refused(30, "no formulas", Due.names(1), x -> x.bind('A', 0, 0, 0), Due.INDEX);
    Due.due(28, "a formula and itself", TWO, x -> x.both('a', 0, 0), 2);
  }

  private static void sixteen() {
    for (int count = 0; count < 16; count++) {
      int number = count;
      Due.due(27, "the number after " + count, then(Due.names(1), x -> atoms(x, number)), x -> x.atom('=', 0, 0),
          number);
    }
    Due.Recipe fifteen = then(DEEP, x -> atoms(x, 10));
    Due.due(27, "a sixteenth one", fifteen, x -> x.atom('e', 0, 0), 15);
    Due.due(28, "a sixteenth one", fifteen, x -> x.both('a', 0, 0), 15);
    Due.due(29, "a sixteenth one", fifteen, x -> x.not(0), 15);
    Due.due(30, "a sixteenth one", fifteen, x -> x.bind('A', 0, 0, 0), 15);
    Due.refused(27, "a seventeenth one", SIXTEEN, x -> x.atom('e', 0, 0), Due.STATE);
    Due.refused(27, "a seventeenth one of letters", SIXTEEN, x -> x.atom('=', 100, 103), Due.STATE);
    Due.refused(28, "a seventeenth one", SIXTEEN, x -> x.both('a', 0, 0), Due.STATE);
    Due.refused(28, "a seventeenth one, of the sixteenth", SIXTEEN, x -> x.both('o', 15, 3), Due.STATE);
    Due.refused(29, "a seventeenth one", SIXTEEN, x -> x.not(0), Due.STATE);
    Due.refused(29, "a seventeenth one, of depth 5", SIXTEEN, x -> x.not(3), Due.STATE);
    Due.refused(30, "a seventeenth one", SIXTEEN, x -> x.bind('A', 0, 0, 0), Due.STATE);
    Due.refused(30, "a seventeenth one, of depth 5", SIXTEEN, x -> x.bind('E', 3, 103, 3), Due.STATE);
  }

  private static void clear() {
    Due.due(40, "none", NONE, x -> x.clear(), 0);
    Due.due(40, "one", then(Due.names(1), x -> x.atom('=', 0, 0)), x -> x.clear(), 1);
    Due.due(40, "16", SIXTEEN, x -> x.clear(), 16);
    Due.due(40, "none left", then(SIXTEEN, x -> x.clear()), x -> x.clear(), 0);
    Due.due(40, "none there any more", then(SIXTEEN, x -> x.clear()), x -> x.free(0), Due.INDEX);
    Due.due(40, "none to be one of two any more", then(SIXTEEN, x -> x.clear()), x -> x.not(0), Due.INDEX);
    Due.due(40, "numbers from 0 again", then(SIXTEEN, x -> x.clear()), x -> x.atom('e', 0, 0), 0);
    Due.due(40, "room for 16 again", then(SIXTEEN, x -> x.clear(), x -> atoms(x, 15)), x -> x.atom('=', 0, 0), 15);
    Due.due(40, "no more than 16 again", then(SIXTEEN, x -> x.clear(), x -> atoms(x, 16)), x -> x.atom('=', 0, 0),
        Due.STATE);
    Due.due(40, "a new one has letters of its own", then(TWO, x -> x.clear(), x -> x.atom('e', 102, 0)),
        x -> x.free(0), 4);
    Due.due(40, "a new one has a depth of its own", then(DEEP, x -> x.clear(), x -> atoms(x, 5)), x -> x.not(4), 5);
    Due.due(40, "a new one has a kind of its own", then(DEEP, x -> x.clear(), x -> atoms(x, 2)), x -> x.value(1), 1);
    Due.due(40, "names and conditions stay", then(SIXTEEN, x -> x.clear()),
        x -> x.checksum(), Due.wood(then(Due.order(1), Due.names(4))).checksum());
  }

  public static void main(String[] args) {
    kindsOfAtom();
    kindsOfBoth();
    kindsOfBind();
    terms();
    letters();
    free();
    depths();
    formulasThatAreNone();
    sixteen();
    clear();
    Due.close();
  }
}
