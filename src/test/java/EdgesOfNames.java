/** The boundary cases of 'Names' and 'Mixtures', and of the promises 16 to 21 and 26. */
public final class EdgesOfNames {
  private static final int[] NO_NUMBERS = {Due.LEAST, -1, 4, 5, 12, 32, 100, Due.MOST};
  private static final Due.Recipe NONE = Due.nothing();
  private static final Due.Recipe ONE = Due.order(1);
  private static final Due.Recipe TWELVE = Due.of(ONE, Due.names(12));
  /** 0 above 1 and 2, 1 above 3. */
  private static final Due.Recipe TREE = Due.order(4, 1, 0, 2, 0, 3, 1);
  /** Names 0, 1 = {0 by 1}, 2 = {0 by 0}, 3 = {1 by 0, 2 by 2} over the tree. */
  private static final Due.Recipe NAMED =
      Due.of(TREE, Due.names(4), Due.pairs(1, 0, 1), Due.pairs(2, 0, 0), Due.pairs(3, 1, 0, 2, 2));
  /** Names 0 to 5 with the ranks 0, 1, 2, 3, 0, 0 over the tree. */
  private static final Due.Recipe HIGH =
      Due.of(TREE, Due.names(6), Due.pairs(1, 0, 0), Due.pairs(2, 1, 0), Due.pairs(3, 2, 0));
  /** Name 1 has 4 pairs over the tree. */
  private static final Due.Recipe FULL = Due.of(TREE, Due.names(4), Due.pairs(1, 0, 0, 0, 1, 0, 2, 0, 3));

  private static Due.Recipe then(Due.Recipe... steps) {
    return Due.of(steps);
  }

  /** The checksum that adds these in turn. */
  private static long sumOf(int... steps) {
    long sum = 7;
    for (int step : steps) sum = 31 * sum + step;
    return sum;
  }

  private static void name() {
    for (int count = 0; count < 12; count++) {
      int number = count;
      Due.due(16, "the number after " + count, Due.names(count), x -> x.name(), number);
      Due.due(16, "no pairs after " + count, Due.names(count), x -> x.rank(x.name()), 0);
    }
    Due.refused(16, "a thirteenth one", Due.names(12), x -> x.name(), Due.STATE);
    Due.refused(16, "a thirteenth one, with conditions", TWELVE, x -> x.name(), Due.STATE);
    Due.refused(16, "one more with 12 that were made as others need them",
        then(ONE, Due.names(6), Due.standards(12, 15)), x -> x.name(), Due.STATE);
    Due.due(16, "the twelfth one after standard names", then(ONE, Due.names(5), Due.standards(12, 15)),
        x -> x.name(), 11);
  }

  private static void pairOfNone() {
    for (int no : NO_NUMBERS) {
      Due.refused(17, "name " + no, NAMED, x -> x.pair(no, 0, 0), Due.INDEX);
      Due.refused(17, "lower name " + no, NAMED, x -> x.pair(3, no, 0), Due.INDEX);
      Due.refused(17, "condition " + no, NAMED, x -> x.pair(3, 0, no), Due.INDEX);
      Due.refused(17, "condition " + no + ", and no lower name", NAMED, x -> x.pair(0, 3, no), Due.INDEX);
      Due.refused(17, "condition " + no + ", for a full name", FULL, x -> x.pair(1, 0, no), Due.INDEX);
    }
    Due.refused(17, "no condition at all", Due.names(2), x -> x.pair(1, 0, 0), Due.INDEX);
    Due.refused(17, "no condition at all, and no lower name", Due.names(2), x -> x.pair(0, 1, 0), Due.INDEX);
    Due.refused(17, "no names", TREE, x -> x.pair(0, 0, 0), Due.INDEX);
    Due.refused(17, "name 12 of 12", TWELVE, x -> x.pair(12, 0, 0), Due.INDEX);
    Due.refused(17, "lower name 12 of 12", TWELVE, x -> x.pair(11, 12, 0), Due.INDEX);
    Due.refused(17, "a standard name by a condition that is none", then(ONE, Due.standards(1)),
        x -> x.pair(1, 0, 1), Due.INDEX);
  }

  private static void pairOfNoLowerName() {
    Due.refused(17, "the same name", NAMED, x -> x.pair(3, 3, 0), Due.ARGUMENT);
    Due.refused(17, "the same name, the first one", NAMED, x -> x.pair(0, 0, 0), Due.ARGUMENT);
    Due.refused(17, "a greater name", NAMED, x -> x.pair(2, 3, 0), Due.ARGUMENT);
    Due.refused(17, "the greatest name in the first one", TWELVE, x -> x.pair(0, 11, 0), Due.ARGUMENT);
    Due.refused(17, "a greater name in a standard one", then(ONE, Due.standards(1), Due.names(1)),
        x -> x.pair(1, 2, 0), Due.ARGUMENT);
    Due.refused(17, "the same name, which is full", FULL, x -> x.pair(1, 1, 0), Due.ARGUMENT);
    Due.refused(17, "a greater name of rank 3", HIGH, x -> x.pair(2, 3, 0), Due.ARGUMENT);
    Due.due(17, "the name just below", TWELVE, x -> x.pair(11, 10, 0), 1);
    Due.due(17, "the name far below", TWELVE, x -> x.pair(11, 0, 0), 1);
  }

  private static void pairThatIsRefused() {
    Due.Recipe standard = then(ONE, Due.standards(3), Due.names(1));
    Due.refused(17, "a standard name", standard, x -> x.pair(2, 0, 0), Due.OPERATION);
    Due.refused(17, "a standard name that was made for another one", standard, x -> x.pair(1, 0, 0),
        Due.OPERATION);
    Due.refused(17, "a standard name with room", then(ONE, Due.names(1), Due.standards(0)),
        x -> x.pair(1, 0, 0), Due.OPERATION);
    Due.refused(17, "a full standard name", then(ONE, Due.names(1), Due.standards(15)),
        x -> x.pair(5, 0, 0), Due.OPERATION);
    Due.due(17, "a name above a standard one", standard, x -> x.pair(3, 2, 0), 1);
    Due.refused(17, "the pair is there", NAMED, x -> x.pair(1, 0, 1), Due.OPERATION);
    Due.refused(17, "the pair is there, as the last one", NAMED, x -> x.pair(3, 2, 2), Due.OPERATION);
    Due.refused(17, "the first pair of a full name again", FULL, x -> x.pair(1, 0, 0), Due.OPERATION);
    Due.refused(17, "the fourth pair of a full name again", FULL, x -> x.pair(1, 0, 3), Due.OPERATION);
    Due.due(17, "the same name by another condition", NAMED, x -> x.pair(1, 0, 3), 2);
    Due.due(17, "another name by the same condition", NAMED, x -> x.pair(3, 0, 2), 3);
    Due.due(17, "conditions and names exchanged", NAMED, x -> x.pair(3, 2, 1), 3);
    Due.due(17, "the pair was taken away", then(NAMED, x -> x.unpair(1)), x -> x.pair(1, 0, 1), 1);
    Due.due(17, "another name has the pair", NAMED, x -> x.pair(2, 0, 1), 2);
  }

  private static void pairThatIsTooHigh() {
    Due.refused(17, "a name above rank 3", HIGH, x -> x.pair(4, 3, 0), Due.OPERATION);
    Due.refused(17, "a name above rank 3 by another condition", HIGH, x -> x.pair(5, 3, 3), Due.OPERATION);
    Due.refused(17, "a name above the standard name of 15", then(ONE, Due.standards(15), Due.names(1)),
        x -> x.pair(5, 4, 0), Due.OPERATION);
    Due.refused(17, "a name above the standard name of 4", then(ONE, Due.standards(4), Due.names(1)),
        x -> x.pair(4, 3, 0), Due.OPERATION);
    Due.due(17, "a name above the standard name of 3", then(ONE, Due.standards(3), Due.names(1)),
        x -> x.pair(3, 2, 0), 1);
    Due.due(17, "up to rank 3", HIGH, x -> x.pair(4, 2, 0), 1);
    Due.due(17, "a name of rank 3 once more", HIGH, x -> x.pair(3, 2, 1), 2);
    // 2 has 0, 3 has 2, 4 has 3: as 2 is raised, 4 is.
    Due.Recipe tower = then(TREE, Due.names(6), Due.pairs(1, 0, 0), Due.pairs(2, 0, 0),
        Due.pairs(3, 2, 0), Due.pairs(4, 3, 0));
    Due.refused(17, "the rank of a name two above the changed one", tower, x -> x.pair(2, 1, 0), Due.OPERATION);
    Due.refused(17, "the rank of the name just above the changed one",
        then(TREE, Due.names(5), Due.pairs(1, 0, 0), Due.pairs(2, 1, 0), Due.pairs(3, 0, 0), Due.pairs(4, 3, 0, 2, 0)),
        x -> x.pair(3, 2, 0), Due.OPERATION);
    Due.due(17, "no rank is raised", tower, x -> x.pair(2, 0, 1), 2);
    Due.due(17, "once the tower is lower", then(tower, x -> x.unpair(4)), x -> x.pair(2, 1, 0), 2);
    Due.due(17, "the rank of the one above then", then(tower, x -> x.unpair(4), Due.pairs(2, 1, 0)),
        x -> x.rank(3), 3);
    Due.Recipe fullTower = then(tower, Due.pairs(2, 0, 1, 0, 2, 0, 3));
    Due.refused(17, "a full name, and the rank of one above", fullTower, x -> x.pair(2, 1, 0), Due.OPERATION);
    Due.refused(17, "a full name of a lower tower", then(fullTower, x -> x.unpair(4)), x -> x.pair(2, 1, 0),
        Due.STATE);
  }

  private static void pairOfFullName() {
    for (int count = 0; count < 4; count++) {
      int before = count;
      Due.due(17, "how many after " + before, then(TREE, Due.names(2), x -> fill(x, before)),
          x -> x.pair(1, 0, before), before + 1);
    }
    Due.Recipe five = then(FULL, Due.order(1));
    Due.refused(17, "a fifth pair", five, x -> x.pair(1, 0, 4), Due.STATE);
    Due.refused(17, "a fifth pair of the last of 12", then(TREE, Due.names(12), Due.pairs(11, 0, 0, 1, 0, 2, 0, 3, 0)),
        x -> x.pair(11, 4, 0), Due.STATE);
    Due.due(17, "a fifth pair after one was taken away", then(five, x -> x.unpair(1)), x -> x.pair(1, 0, 4), 4);
    Due.due(17, "another name than the full one", FULL, x -> x.pair(2, 0, 0), 1);
    Due.refused(17, "a fifth pair of a mixture",
        then(FULL, x -> x.mix(1, 2, 1, 3), Due.pairs(4, 0, 0, 0, 1)), x -> x.pair(4, 1, 0), Due.STATE);
  }

  private static void fill(Genericwood x, int count) {
    for (int i = 0; i < count; i++) x.pair(1, 0, i);
  }

  private static void unpair() {
    for (int no : NO_NUMBERS) {
      Due.refused(18, "name " + no, NAMED, x -> x.unpair(no), Due.INDEX);
    }
    Due.refused(18, "no names", NONE, x -> x.unpair(0), Due.INDEX);
    Due.refused(18, "no pairs", NAMED, x -> x.unpair(0), Due.OPERATION);
    Due.refused(18, "no pairs any more", then(NAMED, x -> x.unpair(1)), x -> x.unpair(1), Due.OPERATION);
    Due.refused(18, "no pairs and no conditions", Due.names(1), x -> x.unpair(0), Due.OPERATION);
    Due.refused(18, "a standard name", then(ONE, Due.standards(15)), x -> x.unpair(4), Due.OPERATION);
    Due.refused(18, "a standard name without pairs", then(ONE, Due.standards(0)), x -> x.unpair(0),
        Due.OPERATION);
    Due.refused(18, "a standard name that was made for another one", then(ONE, Due.standards(8)),
        x -> x.unpair(2), Due.OPERATION);
    Due.due(18, "4 pairs", FULL, x -> x.unpair(1), 3);
    Due.due(18, "one pair", NAMED, x -> x.unpair(1), 0);
    Due.due(18, "the last one is taken", then(NAMED, x -> x.unpair(3)), x -> x.checksum(),
        sumOf(15, 10, 4, 8, 0, 1, 16, 1, 0, 2, 1, 0));
    Due.due(18, "a name that was made by mixing", then(NAMED, x -> x.mix(1, 1, 0, 2)), x -> x.unpair(4), 1);
    Due.due(18, "a name that becomes what a standard one does", then(NAMED, Due.standards(1)),
        x -> x.unpair(2), 0);
  }

  private static void rank() {
    for (int no : new int[] {Due.LEAST, -1, 6, 7, 12, 100, Due.MOST}) {
      Due.refused(19, "name " + no, HIGH, x -> x.rank(no), Due.INDEX);
    }
    Due.refused(19, "no names", NONE, x -> x.rank(0), Due.INDEX);
    Due.refused(19, "name 12 of 12", TWELVE, x -> x.rank(12), Due.INDEX);
    Due.due(19, "no pairs", HIGH, x -> x.rank(4), 0);
    Due.due(19, "no conditions", Due.names(1), x -> x.rank(0), 0);
    Due.due(19, "a name without pairs in it", HIGH, x -> x.rank(1), 1);
    Due.due(19, "the greatest rank", HIGH, x -> x.rank(3), 3);
    Due.due(19, "the greatest one of its pairs, told first", then(HIGH, Due.pairs(5, 2, 0, 0, 0, 1, 0)),
        x -> x.rank(5), 3);
    Due.due(19, "the greatest one of its pairs, told last", then(HIGH, Due.pairs(5, 0, 0, 1, 0, 2, 0)),
        x -> x.rank(5), 3);
    Due.due(19, "the greatest one was taken away", then(HIGH, Due.pairs(5, 0, 0, 2, 0), x -> x.unpair(5)),
        x -> x.rank(5), 1);
    Due.due(19, "the last pair was taken away", then(HIGH, x -> x.unpair(3)), x -> x.rank(3), 0);
    Due.due(19, "a name below lost its pair", then(HIGH, x -> x.unpair(1)), x -> x.rank(3), 2);
    Due.due(19, "a condition of no last one counts as well", then(TREE, Due.names(2), Due.pairs(1, 0, 3)),
        x -> x.rank(1), 1);
    int[] ranks = {0, 1, 2, 2, 3, 3, 3, 3, 3, 3, 3, 3, 3, 3, 3, 3};
    for (int code = 0; code < 16; code++) {
      int one = code;
      Due.due(19, "the standard name of " + code, ONE, x -> x.rank(x.standard(one)), ranks[code]);
    }
  }

  private static void standardOutOfRange() {
    for (int code : new int[] {Due.LEAST, -1, 16, 17, 32, Due.MOST}) {
      Due.refused(20, "code " + code, TREE, x -> x.standard(code), Due.ARGUMENT);
      Due.refused(20, "code " + code + " without conditions", NONE, x -> x.standard(code), Due.ARGUMENT);
      Due.refused(20, "code " + code + " below no condition 0", Due.order(2), x -> x.standard(code),
          Due.ARGUMENT);
      Due.refused(20, "code " + code + " with 12 names", TWELVE, x -> x.standard(code), Due.ARGUMENT);
    }
    Due.due(20, "code 0", ONE, x -> x.standard(0), 0);
    Due.due(20, "code 15", ONE, x -> x.standard(15), 4);
  }

  private static void standardThatIsRefused() {
    for (int code : new int[] {0, 1, 15}) {
      Due.refused(20, "code " + code + ", no condition 0", NONE, x -> x.standard(code), Due.OPERATION);
      Due.refused(20, "code " + code + ", no condition 0 with 12 names", Due.names(12), x -> x.standard(code),
          Due.OPERATION);
      Due.refused(20, "code " + code + ", a condition 0 beside another one", Due.order(2),
          x -> x.standard(code), Due.OPERATION);
      Due.refused(20, "code " + code + ", a condition 0 below another one", Due.order(2, 0, 1),
          x -> x.standard(code), Due.OPERATION);
      Due.refused(20, "code " + code + ", a condition 0 above all but the last number",
          Due.order(7, 1, 0, 2, 0, 3, 0, 4, 0, 5, 0), x -> x.standard(code), Due.OPERATION);
      Due.refused(20, "code " + code + ", a condition 0 above all but 1",
          Due.order(7, 2, 0, 3, 0, 4, 0, 5, 0, 6, 0), x -> x.standard(code), Due.OPERATION);
      Due.refused(20, "code " + code + " that is there, not above all by now",
          then(ONE, Due.standards(15), Due.order(1)), x -> x.standard(code), Due.OPERATION);
      Due.refused(20, "code " + code + " with 12 names, not above all by now", then(TWELVE, Due.order(1)),
          x -> x.standard(code), Due.OPERATION);
      Due.due(20, "code " + code + ", above all of 7 through others",
          then(Due.order(7, 1, 0, 2, 1, 3, 2, 4, 3, 5, 4, 6, 5), Due.standards(15)), x -> x.standard(code),
          code == 15 ? 4 : code);
      Due.due(20, "code " + code + " that is there, above all again",
          then(ONE, Due.standards(15), Due.order(1, 1, 0)), x -> x.standard(code), code == 15 ? 4 : code);
    }
  }

  private static void standardThatIsMade() {
    Due.due(20, "no pairs for 0", then(ONE, Due.standards(0)), x -> x.checksum(), sumOf(1, 0, 0));
    Due.due(20, "0 made ahead of 1", then(ONE, Due.standards(1)), x -> x.checksum(), sumOf(1, 0, 1, 0, 0));
    Due.due(20, "0 and 1 made ahead of 2", then(ONE, Due.standards(2)), x -> x.checksum(),
        sumOf(1, 0, 1, 0, 2, 1, 0));
    Due.due(20, "0 and 1 made ahead of 3, not 2", then(ONE, Due.standards(3)), x -> x.checksum(),
        sumOf(1, 0, 1, 0, 2, 0, 1, 0));
    Due.due(20, "0, 1 and 2 made ahead of 4, not 3", then(ONE, Due.standards(4)), x -> x.checksum(),
        sumOf(1, 0, 1, 0, 2, 1, 3, 2, 0));
    Due.due(20, "0, 1 and 2 made ahead of 5", then(ONE, Due.standards(5)), x -> x.checksum(),
        sumOf(1, 0, 1, 0, 2, 1, 3, 0, 2, 0));
    Due.due(20, "0, 1 and 3 made ahead of 8, not 2", then(ONE, Due.standards(8)), x -> x.checksum(),
        sumOf(1, 0, 1, 0, 2, 0, 1, 3, 2, 0));
    Due.due(20, "all made ahead of 15", then(ONE, Due.standards(15)), x -> x.checksum(),
        sumOf(1, 0, 1, 0, 2, 1, 2, 0, 1, 3, 0, 1, 2, 3, 0));
    Due.due(20, "used again, though made ahead of another one", then(ONE, Due.standards(8, 2)),
        x -> x.checksum(), sumOf(1, 0, 1, 0, 2, 0, 1, 3, 2, 2, 1, 0));
    Due.due(20, "used again by a name of more", then(ONE, Due.standards(1), Due.names(1), Due.standards(3)),
        x -> x.checksum(), sumOf(1, 0, 1, 0, 0, 2, 0, 1, 0));
    Due.due(20, "the same number again", then(ONE, Due.standards(8)), x -> x.standard(8), 3);
    Due.due(20, "the number of one that was made ahead", then(ONE, Due.standards(8)), x -> x.standard(3), 2);
    Due.due(20, "nothing is made again", then(ONE, Due.standards(8, 8, 3, 1, 0)), x -> x.name(), 4);
    Due.due(20, "a like name that is no standard one is not used",
        then(ONE, Due.names(2), Due.pairs(1, 0, 0), Due.standards(1)), x -> x.standard(1), 3);
    Due.due(20, "as they are, though the map moves 0", then(ONE, Due.standards(1), Due.order(1, 1, 0),
        x -> x.swap(0, 1)), x -> x.standard(2), 2);
    Due.due(20, "the pairs have the condition 0, wherever the map sends it",
        then(Due.order(2, 1, 0), x -> x.swap(0, 1), Due.standards(1)), x -> x.checksum(),
        sumOf(3, 2, 0, 1, 0, 0));
  }

  private static void standardWithoutRoom() {
    int[] needs = {1, 2, 3, 3, 4, 4, 4, 4, 4, 4, 4, 4, 5, 5, 5, 5};
    for (int code = 0; code < 16; code++) {
      int one = code;
      int room = 12 - needs[code];
      Due.Recipe enough = then(ONE, Due.names(room));
      Due.Recipe tooFew = then(ONE, Due.names(room + 1));
      Due.due(20, "just room for " + code, enough, x -> x.standard(one), 11);
      Due.due(20, "what " + code + " becomes", enough, x -> x.becomes(x.standard(one), 0), code);
      Due.refused(20, "one too few for " + code, tooFew, x -> x.standard(one), Due.STATE);
      Due.refused(20, "12 names, and " + code, TWELVE, x -> x.standard(one), Due.STATE);
      Due.due(20, "12 names, and " + code + " is there", then(enough, Due.standards(code)),
          x -> x.standard(one), 11);
      Due.due(20, "no name was made for " + code + " as it was refused",
          then(tooFew, x -> Due.answer(x, y -> y.standard(one))), x -> namesLeft(x), needs[code] - 1);
    }
    Due.refused(20, "12 names, and what it needs is there", then(ONE, Due.names(9), Due.standards(2)),
        x -> x.standard(3), Due.STATE);
    Due.due(20, "what it needs is there, and room for one", then(ONE, Due.names(8), Due.standards(2)),
        x -> x.standard(3), 11);
    Due.due(20, "what is made ahead is there with 12 names", then(ONE, Due.names(7), Due.standards(15)),
        x -> x.standard(3), 10);
  }

  /** How many names can be added. */
  private static int namesLeft(Genericwood x) {
    int count = 0;
    while (Due.answer(x, y -> y.name()) instanceof Integer) count++;
    return count;
  }

  private static void becomes() {
    for (int no : NO_NUMBERS) {
      Due.refused(21, "name " + no, NAMED, x -> x.becomes(no, 3), Due.INDEX);
      Due.refused(21, "name " + no + " in no world", NAMED, x -> x.becomes(no, 0), Due.INDEX);
      Due.refused(21, "world " + no, NAMED, x -> x.becomes(3, no), Due.ARGUMENT);
    }
    for (int no : new int[] {0, 1, 31, 34, 35}) {
      Due.refused(21, "world " + no, NAMED, x -> x.becomes(0, no), Due.ARGUMENT);
    }
    Due.refused(21, "no condition", Due.names(1), x -> x.becomes(0, 0), Due.ARGUMENT);
    Due.refused(21, "no name", ONE, x -> x.becomes(0, 0), Due.INDEX);
    Due.refused(21, "neither name nor condition", NONE, x -> x.becomes(0, 0), Due.INDEX);
    Due.due(21, "no pairs", NAMED, x -> x.becomes(0, 2), 0);
    Due.due(21, "a pair of which the world has the condition", NAMED, x -> x.becomes(1, 3), 1);
    Due.due(21, "a pair of which it has not", NAMED, x -> x.becomes(1, 2), 0);
    Due.due(21, "a condition that is the world itself", then(TREE, Due.names(2), Due.pairs(1, 0, 3)),
        x -> x.becomes(1, 3), 1);
    Due.due(21, "the same name by two conditions is in it once",
        then(TREE, Due.names(2), Due.pairs(1, 0, 0, 0, 1)), x -> x.becomes(1, 3), 1);
    Due.due(21, "two names that become the same are in it once",
        then(TREE, Due.names(3), Due.pairs(2, 0, 0, 1, 0)), x -> x.becomes(2, 3), 1);
    Due.due(21, "names that are the same in this world alone", NAMED, x -> x.becomes(3, 3), 2);
    Due.due(21, "and unlike in the other one", NAMED, x -> x.becomes(3, 2), 3);
    Due.due(21, "the world is no last one any more", then(NAMED, Due.order(1, 4, 3)),
        x -> x.becomes(1, 3), Due.ARGUMENT);
    Due.due(21, "the one below it is", then(NAMED, Due.order(1, 4, 3)), x -> x.becomes(1, 4), 1);
    for (int code = 0; code < 16; code++) {
      int one = code;
      Due.due(21, "the standard name of " + code, TREE, x -> x.becomes(x.standard(one), 2), code);
    }
    Due.due(21, "a standard name in a world that is not below 0 by now",
        then(ONE, Due.standards(15), Due.order(1)), x -> x.becomes(4, 1), 0);
    Due.due(21, "what it becomes below 0", then(ONE, Due.standards(15), Due.order(1)),
        x -> x.becomes(4, 0), 15);
  }

  private static void mixOfNone() {
    for (int no : NO_NUMBERS) {
      Due.refused(26, "name " + no, NAMED, x -> x.mix(no, 1, 2, 2), Due.INDEX);
      Due.refused(26, "condition " + no, NAMED, x -> x.mix(1, no, 2, 2), Due.INDEX);
      Due.refused(26, "other name " + no, NAMED, x -> x.mix(1, 1, no, 2), Due.INDEX);
      Due.refused(26, "second condition " + no, NAMED, x -> x.mix(1, 1, 2, no), Due.INDEX);
      Due.refused(26, "name " + no + " by conditions that fit", NAMED, x -> x.mix(1, 1, no, 1), Due.INDEX);
    }
    Due.refused(26, "no condition", Due.names(2), x -> x.mix(0, 0, 1, 1), Due.INDEX);
    Due.refused(26, "no name", TREE, x -> x.mix(0, 1, 0, 2), Due.INDEX);
    Due.refused(26, "name 12 of 12", then(TREE, Due.names(12)), x -> x.mix(12, 1, 0, 2), Due.INDEX);
  }

  private static void mixOfThoseThatFit() {
    Due.refused(26, "a condition and itself", NAMED, x -> x.mix(1, 3, 2, 3), Due.OPERATION);
    Due.refused(26, "one below the other", NAMED, x -> x.mix(1, 3, 2, 1), Due.OPERATION);
    Due.refused(26, "one above the other", NAMED, x -> x.mix(1, 0, 2, 2), Due.OPERATION);
    Due.refused(26, "two above a third one", then(Due.order(3, 2, 0, 2, 1), Due.names(2)),
        x -> x.mix(0, 0, 1, 1), Due.OPERATION);
    Due.refused(26, "that fit, with 12 names", then(TREE, Due.names(12)), x -> x.mix(0, 0, 1, 1),
        Due.OPERATION);
    Due.due(26, "last ones", NAMED, x -> x.mix(1, 3, 2, 2), 4);
    Due.due(26, "a name and itself", NAMED, x -> x.mix(1, 1, 1, 2), 4);
    Due.due(26, "two names below nothing in common", then(Due.order(2), Due.names(2)),
        x -> x.mix(0, 0, 1, 1), 2);
  }

  private static void mixOfPairs() {
    Due.Recipe two = then(Due.order(6, 1, 0, 2, 0, 3, 1, 4, 1, 5, 2), Due.names(4));
    // What is below 1 is 1, 3, 4; what is below 2 is 2, 5.
    Due.due(26, "no pairs at all", then(two, x -> x.mix(0, 1, 1, 2)), x -> x.checksum(),
        sumOf(63, 26, 36, 8, 16, 32, 0, 0, 0, 0, 0, 0));
    Due.due(26, "no pairs below the conditions",
        then(two, Due.pairs(2, 0, 2), Due.pairs(3, 0, 1), x -> x.mix(2, 1, 3, 2)), x -> x.rank(4), 0);
    Due.due(26, "each condition below both, by numbers",
        then(two, Due.pairs(3, 1, 0), x -> x.mix(3, 1, 0, 2)), x -> x.checksum(),
        sumOf(63, 26, 36, 8, 16, 32, 0, 0, 0, 1, 1, 1, 1 + 16, 1 + 48, 1 + 64, 0));
    Due.due(26, "the first name's pairs, then the second one's",
        then(two, Due.pairs(2, 0, 5), Due.pairs(3, 1, 3), x -> x.mix(3, 1, 2, 2)), x -> x.checksum(),
        sumOf(63, 26, 36, 8, 16, 32, 0, 0, 1, 80, 1, 1 + 48, 1, 1 + 48, 80, 0));
    Due.due(26, "the second one's condition has the lower number",
        then(two, Due.pairs(2, 0, 5), Due.pairs(3, 1, 3), x -> x.mix(2, 2, 3, 1)), x -> x.checksum(),
        sumOf(63, 26, 36, 8, 16, 32, 0, 0, 1, 80, 1, 1 + 48, 1, 80, 1 + 48, 0));
    Due.due(26, "each name by its own condition alone",
        then(two, Due.pairs(2, 0, 5), Due.pairs(3, 1, 3), x -> x.mix(2, 1, 3, 2)), x -> x.rank(4), 0);
    Due.due(26, "the condition 0 below both",
        then(Due.order(3, 0, 1), Due.names(2), Due.pairs(1, 0, 1), x -> x.mix(1, 1, 0, 2)), x -> x.checksum(),
        sumOf(1, 3, 4, 0, 1, 16, 1, 0, 16, 0));
    Due.due(26, "a pair that would stand twice, of one name",
        then(two, Due.pairs(3, 0, 3, 0, 1), x -> x.mix(3, 1, 0, 2)), x -> x.checksum(),
        sumOf(63, 26, 36, 8, 16, 32, 0, 0, 0, 1, 48, 16, 1, 48, 16, 64, 0));
    Due.due(26, "the same name in pairs of both is there by both conditions",
        then(two, Due.pairs(3, 0, 3, 0, 5), x -> x.mix(3, 1, 3, 2)), x -> x.checksum(),
        sumOf(63, 26, 36, 8, 16, 32, 0, 0, 0, 1, 48, 80, 1, 48, 80, 0));
  }

  private static void mixOfTooMany() {
    Due.Recipe two = then(Due.order(6, 1, 0, 2, 0, 3, 1, 4, 1, 5, 2), Due.names(4));
    Due.due(26, "4 pairs", then(two, Due.pairs(2, 0, 5), Due.pairs(3, 1, 0)),
        x -> x.unpair(x.mix(3, 1, 2, 2)), 3);
    Due.refused(26, "5 pairs", then(two, Due.pairs(2, 0, 2), Due.pairs(3, 1, 0)), x -> x.mix(3, 1, 2, 2),
        Due.OPERATION);
    Due.refused(26, "5 pairs the other way round", then(two, Due.pairs(2, 0, 2), Due.pairs(3, 1, 0)),
        x -> x.mix(2, 2, 3, 1), Due.OPERATION);
    Due.refused(26, "4 pairs of the first name, and one of the second",
        then(two, Due.pairs(2, 0, 5), Due.pairs(3, 1, 0, 0, 4)), x -> x.mix(3, 1, 2, 2), Due.OPERATION);
    Due.due(26, "4 pairs of the first name, and none of the second", then(two, Due.pairs(3, 1, 0, 0, 4)),
        x -> x.unpair(x.mix(3, 1, 2, 2)), 3);
    Due.refused(26, "one pair of the first name, and 4 of the second",
        then(two, Due.pairs(2, 0, 5), Due.pairs(3, 1, 0, 0, 4)), x -> x.mix(2, 2, 3, 1), Due.OPERATION);
    Due.refused(26, "6 pairs of the first name alone", then(two, Due.pairs(3, 0, 0, 1, 0)),
        x -> x.mix(3, 1, 0, 2), Due.OPERATION);
    Due.refused(26, "6 pairs of the second name alone", then(two, Due.pairs(3, 0, 0, 1, 0)),
        x -> x.mix(0, 2, 3, 1), Due.OPERATION);
    Due.due(26, "4 pairs of the second name alone", then(two, Due.pairs(3, 0, 0, 1, 4)),
        x -> x.unpair(x.mix(0, 2, 3, 1)), 3);
    Due.due(26, "5 pairs, of which one would stand twice", then(two, Due.pairs(2, 0, 5), Due.pairs(3, 0, 0, 0, 4)),
        x -> x.unpair(x.mix(3, 1, 2, 2)), 3);
    Due.due(26, "8 pairs, of which 4 would stand twice",
        then(two, Due.pairs(2, 0, 5), Due.pairs(3, 0, 0, 0, 1, 0, 3)), x -> x.unpair(x.mix(3, 1, 2, 2)), 3);
    Due.due(26, "a full name, of which all pairs but 3 are cut off",
        then(two, Due.pairs(3, 0, 2, 0, 3, 0, 4, 0, 5)), x -> x.unpair(x.mix(3, 1, 0, 2)), 1);
    Due.refused(26, "5 pairs, with 12 names", then(two, Due.names(8), Due.pairs(2, 0, 2), Due.pairs(3, 1, 0)),
        x -> x.mix(3, 1, 2, 2), Due.OPERATION);
    Due.refused(26, "4 pairs, with 12 names", then(two, Due.names(8), Due.pairs(2, 0, 5), Due.pairs(3, 1, 0)),
        x -> x.mix(3, 1, 2, 2), Due.STATE);
    Due.refused(26, "no pairs, with 12 names", then(two, Due.names(8)), x -> x.mix(0, 1, 0, 2), Due.STATE);
    Due.due(26, "the twelfth name", then(two, Due.names(7)), x -> x.mix(0, 1, 0, 2), 11);
  }

  private static void mixIsAName() {
    Due.Recipe mixed = then(NAMED, x -> x.mix(1, 1, 2, 2));
    Due.due(26, "a new one each time", mixed, x -> x.mix(1, 1, 2, 2), 5);
    Due.due(26, "as the first name in its worlds", mixed, x -> x.becomes(4, 3), 1);
    Due.due(26, "as the second name in its worlds", then(NAMED, x -> x.mix(2, 1, 0, 2)), x -> x.becomes(4, 2), 0);
    Due.due(26, "it can have pairs told", mixed, x -> x.pair(4, 3, 0), 4);
    Due.due(26, "it is no standard name", then(NAMED, Due.standards(0), x -> x.mix(4, 1, 4, 2)),
        x -> x.pair(5, 4, 0), 1);
    Due.due(26, "of standard names", then(TREE, Due.standards(1), x -> x.mix(1, 1, 0, 2)), x -> x.rank(2), 1);
    Due.due(26, "of names of rank 3", then(HIGH, x -> x.mix(3, 1, 3, 2)), x -> x.rank(6), 3);
    Due.due(26, "it stays as it is, as its names are changed", then(mixed, x -> x.unpair(1), x -> x.unpair(2)),
        x -> x.becomes(4, 3), 1);
  }

  public static void main(String[] args) {
    name();
    pairOfNone();
    pairOfNoLowerName();
    pairThatIsRefused();
    pairThatIsTooHigh();
    pairOfFullName();
    unpair();
    rank();
    standardOutOfRange();
    standardThatIsRefused();
    standardThatIsMade();
    standardWithoutRoom();
    becomes();
    mixOfNone();
    mixOfThoseThatFit();
    mixOfPairs();
    mixOfTooMany();
    mixIsAName();
    Due.close();
  }
}
