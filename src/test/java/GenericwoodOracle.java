import java.util.HashMap;
import java.util.Map;
import java.util.Random;

/** Runs of 512 calls, each answered by Genericwood and by a model that is the document word by word. */
public final class GenericwoodOracle {
  private static final int RUNS = 1500;
  private static final int CALLS = 512;
  private static int wrong = 0;
  private static final Map<String, Map<String, Integer>> seen = new HashMap<>();

  private final Random random;
  private final Model model = new Model();
  private final Genericwood wood = new Genericwood();
  private final int run;
  private final StringBuilder told = new StringBuilder();
  private int calls;

  private GenericwoodOracle(int run) {
    this.run = run;
    this.random = new Random(run);
  }

  private int any(int low, int high) {
    return low + random.nextInt(high - low + 1);
  }

  private boolean rarely() {
    return random.nextInt(25) == 0;
  }

  private int aNumber(int count) {
    if (rarely()) return new int[] {-1, count, Integer.MIN_VALUE, Integer.MAX_VALUE, 32}[any(0, 4)];
    return count == 0 ? 0 : any(0, count - 1);
  }

  private int aCondition() {
    return aNumber(model.conditions);
  }

  private int aName() {
    return aNumber(model.names.size());
  }

  private int aFormula() {
    int count = model.formulas.size();
    return random.nextBoolean() && count > 3 ? any(count - 3, count - 1) : aNumber(count);
  }

  private int aClosedFormula() {
    int formula = aFormula();
    for (int i = 0; i < 8 && model.isFormula(formula) && model.open(formula) != 0; i++) {
      formula = aFormula();
    }
    return formula;
  }

  private int aWorld() {
    int world = aCondition();
    for (int i = 0; i < 4 && !model.isLast(world); i++) world = aCondition();
    return world;
  }

  /** Exchanges two at random, and mostly back again if the order is not kept. */
  private void aSwap() {
    int p = aCondition();
    int q = aCondition();
    call("swap", p, q);
    if (!model.keeps() && !rarely()) call("swap", p, q);
  }

  private int aSet() {
    return rarely() ? any(-2, 256) : any(0, (1 << model.conditions) - 1);
  }

  private int aTerm() {
    return rarely() ? any(98, 105) : random.nextInt(5) < 2 ? 100 + any(0, 1) : aName();
  }

  private char aKind(String kinds) {
    return rarely() ? "eaoAEnx=\0"
        .charAt(any(0, 8)) : kinds.charAt(any(0, kinds.length() - 1));
  }

  private void call(String name, Object... with) {
    Object want = Calls.answer(model, name, with);
    Object got = Calls.answer(wood, name, with);
    calls++;
    told.append(name).append(java.util.Arrays.toString(with)).append(" = ").append(want).append("; ");
    seen.computeIfAbsent(name, k -> new HashMap<>()).merge(
        want instanceof String || want instanceof Boolean ? want.toString() : "number", 1, Integer::sum);
    if (!want.equals(got)) {
      wrong++;
      if (wrong < 10) System.out.println("run " + run + ": answered " + got + ": " + told);
    }
  }

  private void change() {
    switch (any(0, 17)) {
      case 0: if (random.nextInt(12) == 0) call("condition"); break;
      case 1: if (random.nextInt(4) == 0) call("under", aCondition(), aCondition()); break;
      case 2: aSwap(); break;
      case 3: call("name"); break;
      case 4: case 5: case 6: call("pair", aName(), aName(), aCondition()); break;
      case 7: if (random.nextInt(3) == 0) call("unpair", aName()); break;
      case 8: if (random.nextInt(3) == 0) call("standard", rarely() ? any(-1, 16) : any(0, 15)); break;
      case 9: call("mix", aName(), aCondition(), aName(), aCondition()); break;
      case 10: case 11: call("atom", aKind("e="), aTerm(), aTerm()); break;
      case 12: call("both", aKind("ao"), aFormula(), aFormula()); break;
      case 13: call("not", aFormula()); break;
      case 14: case 15: case 16:
        call("bind", aKind("AE"), rarely() ? any(-1, 100) : any(0, random.nextInt(4) == 0 ? 3 : 1), aTerm(),
            aFormula());
        break;
      default: if (random.nextInt(4) == 0) call("clear"); else aSwap();
    }
  }

  private void ask() {
    switch (any(0, 28)) {
      case 0: call("isBelow", aCondition(), aCondition()); break;
      case 1: call("fit", aCondition(), aCondition()); break;
      case 2: call("lasts"); break;
      case 3: call("isAntichain", aSet()); break;
      case 4: call("widest"); break;
      case 5: call("isDense", aSet()); break;
      case 6: call("isFilter", aSet()); break;
      case 7: call("filters"); break;
      case 8: call("isSeparative"); break;
      case 9: call("cut", aCondition()); break;
      case 10: call("closure", aSet()); break;
      case 11: call("filterOf", aWorld()); break;
      case 12: call("rank", aName()); break;
      case 13: call("becomes", aName(), aWorld()); break;
      case 14: call("valueIn", aName(), aName()); break;
      case 15: call("valueLike", aName(), aName()); break;
      case 16: call("forcesIn", aCondition(), aName(), aName()); break;
      case 17: call("forcesLike", aCondition(), aName(), aName()); break;
      case 18: call("free", aFormula()); break;
      case 19: call("value", aClosedFormula()); break;
      case 20: call("forces", aCondition(), aClosedFormula()); break;
      case 21: case 22: call("weakly", aCondition(), aClosedFormula()); break;
      case 23: call("holds", aClosedFormula(), aWorld()); break;
      case 24: call("against", aClosedFormula()); break;
      case 25: call("goes", aCondition()); break;
      case 26: call("isFixed", aName()); break;
      case 27: call("isFilter", model.conditions == 0 ? 0 : model.up(any(0, model.conditions - 1))); break;
      default: call("lastShare"); call("meanRank");
    }
  }

  private void go() {
    int early = any(0, 7);
    for (int i = 0; i < early; i++) call("condition");
    boolean isRooted = random.nextBoolean();
    for (int i = 1; i < early && isRooted; i++) call("under", i, 0);
    for (int i = any(0, 6); i > 0; i--) call("under", aCondition(), aCondition());
    for (int i = any(0, 6); i > 0; i--) call("name");
    for (int i = any(0, 14); i > 0; i--) call("pair", aName(), aName(), aCondition());
    // A turn makes 3 calls at most, so that there is room for the last two.
    for (int turn = 0; calls < CALLS - 4; turn++) {
      if (random.nextInt(3) == 0) change();
      else ask();
      if (turn % 40 == 0) call("checksum");
    }
    call("isSound");
    while (calls < CALLS) call("checksum");
  }

  public static void main(String[] args) {
    for (int run = 0; run < RUNS; run++) new GenericwoodOracle(run).go();
    if (args.length > 0) System.out.println(seen);
    System.out.println(wrong == 0 ? "all answers are as due" : wrong + " answers are not as due");
    if (wrong != 0) System.exit(1);
  }
}
