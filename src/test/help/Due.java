import java.util.NoSuchElementException;

/** What the tests share: woods made by recipes, and answers compared with those that are due. */
final class Due {
  static final Class<?> INDEX = IndexOutOfBoundsException.class;
  static final Class<?> ARGUMENT = IllegalArgumentException.class;
  static final Class<?> OPERATION = UnsupportedOperationException.class;
  static final Class<?> STATE = IllegalStateException.class;
  static final Class<?> NOTHING = NoSuchElementException.class;
  static final int LEAST = Integer.MIN_VALUE;
  static final int MOST = Integer.MAX_VALUE;
  private static int tests = 0;
  private static int wrong = 0;

  interface Recipe {
    void make(Genericwood x);
  }

  interface Call {
    Object answer(Genericwood x);
  }

  private Due() {}

  static Genericwood wood(Recipe recipe) {
    Genericwood x = new Genericwood();
    recipe.make(x);
    return x;
  }

  /** What a call answers, or the class of what it throws. */
  static Object answer(Genericwood x, Call call) {
    try {
      return call.answer(x);
    } catch (RuntimeException e) {
      return e.getClass();
    }
  }

  /** A call of a wood made by a recipe gives the answer that is due. */
  static void due(int promise, String what, Recipe recipe, Call call, Object want) {
    compare(promise, what, answer(wood(recipe), call), want);
  }

  /** A call of a wood made by a recipe throws what is due, and leaves the wood as it was. */
  static void refused(int promise, String what, Recipe recipe, Call call, Class<?> want) {
    Genericwood x = wood(recipe);
    compare(promise, what, answer(x, call), want);
    compare(promise, what + ", and nothing is changed", all(x).equals(all(wood(recipe))), true);
  }

  static void compare(int promise, String what, Object got, Object want) {
    tests++;
    if (!want.equals(got)) {
      wrong++;
      System.out.println("promise " + promise + ", " + what + ": answered " + got + ", due is " + want);
    }
  }

  /** All that can be asked of a wood, by fewer than 450 calls, which use it up. */
  static String all(Genericwood x) {
    StringBuilder told = new StringBuilder();
    told.append(x.checksum());
    int lasts = x.lasts();
    for (int p = 0; p < 7; p++) {
      int one = p;
      told.append(" p").append(answer(x, y -> y.goes(one)));
      for (int q = 0; q < 7; q++) {
        int two = q;
        told.append(" ").append(answer(x, y -> y.isBelow(one, two)));
      }
    }
    for (int f = 0; f < 16; f++) {
      int one = f;
      told.append(" f").append(answer(x, y -> y.free(one))).append(answer(x, y -> y.value(one)));
      for (int p = 0; p < 7; p++) {
        int two = p;
        told.append(" ").append(answer(x, y -> y.weakly(two, one)));
      }
    }
    for (int n = 0; n < 12; n++) {
      int one = n;
      int world = Integer.numberOfTrailingZeros(lasts);
      told.append(" n").append(answer(x, y -> y.becomes(one, world)));
      while (answer(x, y -> y.unpair(one)) instanceof Integer) told.append(" ").append(x.checksum());
    }
    return told.append(" ").append(x.clear()).toString();
  }

  static Recipe nothing() {
    return x -> { };
  }

  static Recipe of(Recipe... steps) {
    return x -> {
      for (Recipe step : steps) step.make(x);
    };
  }

  /** As many conditions, and of each two numbers that follow the first one below the second one. */
  static Recipe order(int count, int... below) {
    return x -> {
      for (int i = 0; i < count; i++) x.condition();
      for (int i = 0; i < below.length; i += 2) x.under(below[i], below[i + 1]);
    };
  }

  static Recipe names(int count) {
    return x -> {
      for (int i = 0; i < count; i++) x.name();
    };
  }

  /** A name, which is there already, with pairs of each two numbers that follow. */
  static Recipe pairs(int name, int... pairs) {
    return x -> {
      for (int i = 0; i < pairs.length; i += 2) x.pair(name, pairs[i], pairs[i + 1]);
    };
  }

  static Recipe standards(int... codes) {
    return x -> {
      for (int code : codes) x.standard(code);
    };
  }

  /** Says how it went; without a test, or with one that failed, the exit code is 1. */
  static void close() {
    System.out.println(tests + " answers compared, " + wrong + " not as due");
    if (wrong != 0 || tests == 0) System.exit(1);
  }
}
