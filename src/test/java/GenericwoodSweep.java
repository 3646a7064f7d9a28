import java.util.ArrayList;
import java.util.Arrays;
import java.util.LinkedHashMap;
import java.util.List;
import java.util.Map;

/** Every call with every mixture of numbers at and beyond the edges, in woods at the edges, against the model. */
public final class GenericwoodSweep {
  /** What each call is given: p condition, n name, f formula, w world, s set, t term, l letter, c code, else a kind. */
  private static final String CALLS = "condition under:pp isBelow:pp fit:pp lasts isAntichain:s widest isDense:s"
      + " isFilter:s filters isSeparative cut:p closure:s filterOf:w name pair:nnp unpair:n rank:n standard:c"
      + " becomes:nw valueIn:nn valueLike:nn forcesIn:pnn forcesLike:pnn mix:npnp atom:ett both:aff not:f bind:Altf"
      + " free:f value:f forces:pf weakly:pf holds:fw against:f swap:pp goes:p isFixed:n clear checksum lastShare"
      + " meanRank isSound";
  /** Calls of one object, those that make the wood too. */
  private static final int MOST_CALLS = 480;
  private static int tests = 0;
  private static int wrong = 0;

  private final String what;
  private final List<Object[]> recipe;
  private Genericwood wood;
  private Model model;
  private int calls;

  private GenericwoodSweep(String what, List<Object[]> recipe) {
    this.what = what;
    this.recipe = recipe;
    renew();
  }

  private void renew() {
    wood = new Genericwood();
    model = new Model();
    calls = 0;
    for (Object[] call : recipe) call((String) call[0], Arrays.copyOfRange(call, 1, call.length));
  }

  private void call(String name, Object... with) {
    Object want = Calls.answer(model, name, with);
    Object got = Calls.answer(wood, name, with);
    calls++;
    tests++;
    if (!want.equals(got)) {
      wrong++;
      if (wrong < 20) {
        System.out.println(what + ": " + name + Arrays.toString(with) + " answered " + got + ", due is " + want);
      }
    }
  }

  private static List<Object> numbers(int count, int... more) {
    List<Object> list = new ArrayList<>(List.of(Integer.MIN_VALUE, -1));
    for (int i = 0; i <= count; i++) list.add(i);
    for (int number : more) if (number > count) list.add(number);
    return list;
  }

  private List<Object> edges(char of) {
    int conditions = model.conditions;
    switch (of) {
      case 'p': return numbers(conditions, 7, Integer.MAX_VALUE);
      case 'w': return numbers(conditions, 7, 32, 33, Integer.MAX_VALUE);
      case 'n': return few(numbers(model.names.size(), 12, Integer.MAX_VALUE));
      case 'f': return few(numbers(model.formulas.size(), 16, Integer.MAX_VALUE));
      case 's': return numbers((1 << conditions) + 1, 256, Integer.MAX_VALUE);
      case 't': return few(numbers(model.names.size(), 12, 99, 100, 103, 104, Integer.MAX_VALUE));
      case 'l': return numbers(4, 100, Integer.MAX_VALUE);
      case 'c': return numbers(16, Integer.MAX_VALUE);
      case 'e': return List.of('e', '=', 'E', 'a', '\0');
      case 'a': return List.of('a', 'o', 'A', 'e', '\uffff');
      default: return List.of('A', 'E', 'a', 'e', 'n');
    }
  }

  /** Of many numbers the ends, and each third one between. */
  private static List<Object> few(List<Object> all) {
    List<Object> list = new ArrayList<>();
    for (int i = 0; i < all.size(); i++) {
      if (all.size() < 10 || i < 4 || i > all.size() - 7 || i % 3 == 0) list.add(all.get(i));
    }
    return list;
  }

  private void sweep(String name, String of) {
    List<List<Object>> edges = new ArrayList<>();
    for (char one : of.toCharArray()) edges.add(edges(one));
    ways(name, edges, new Object[of.length()], 0);
  }

  private void ways(String name, List<List<Object>> edges, Object[] with, int place) {
    if (place == with.length) {
      ask(name, with);
      return;
    }
    for (Object one : edges.get(place)) {
      with[place] = one;
      ways(name, edges, with, place + 1);
    }
  }

  /** After a call that throws nothing may be changed; after one that does not, all is made anew if something is. */
  private void ask(String name, Object[] with) {
    if (calls > MOST_CALLS) renew();
    long before = model.checksum();
    call(name, with);
    call("checksum");
    if (name.equals("swap") || before != model.checksum()) renew();
  }

  private void sweepAll() {
    for (String call : CALLS.split(" ")) {
      String[] parts = call.split(":");
      sweep(parts[0], parts.length > 1 ? parts[1] : "");
    }
  }

  /** Calls as texts: a name, and what it is given, numbers or kinds, with blanks between. */
  private static List<Object[]> recipe(String... texts) {
    List<Object[]> list = new ArrayList<>();
    for (String text : texts) {
      for (String call : text.split("; *")) list.add(parsed(call.trim().split(" ")));
    }
    return list;
  }

  private static Object[] parsed(String[] parts) {
    Object[] call = new Object[parts.length];
    for (int i = 0; i < parts.length; i++) {
      boolean kind = i == 1 && (parts[0].equals("atom") || parts[0].equals("both") || parts[0].equals("bind"));
      if (i == 0) call[i] = parts[i];
      else if (kind) call[i] = parts[i].charAt(0);
      else call[i] = Integer.parseInt(parts[i]);
    }
    return call;
  }

  private static String times(int count, String call) {
    return (call + "; ").repeat(count);
  }

  private static Map<String, List<Object[]>> woods() {
    String tree = times(4, "condition") + "under 1 0; under 2 0; under 3 1; ";
    String ladder = times(7, "condition") + "under 1 0; under 2 1; under 3 2; under 4 3; under 5 4; under 6 5; ";
    String named = times(4, "name") + "pair 1 0 1; pair 2 0 0; pair 3 1 0; pair 3 2 2; ";
    String tower = times(6, "name") + "pair 1 0 0; pair 2 1 0; pair 3 2 0; "
        + "pair 5 0 0; pair 5 0 1; pair 5 0 2; pair 5 0 3; ";
    String deep = "atom e 0 1; not 0; not 1; both o 2 0; not 3; atom = 100 1; bind E 0 3 5; bind A 1 101 6; ";
    Map<String, List<Object[]>> woods = new LinkedHashMap<>();
    woods.put("nothing", new ArrayList<>());
    woods.put("one condition", recipe("condition"));
    woods.put("one name", recipe("name"));
    woods.put("one formula", recipe("atom = 100 101"));
    woods.put("names and formulas alone", recipe(times(3, "name") + "atom e 0 2; atom = 1 1; bind A 0 2 0; not 2"));
    woods.put("the tree", recipe(tree + named + deep));
    woods.put("the tree, moved", recipe(tree + named + deep + "swap 1 2"));
    woods.put("a tower", recipe(tree + tower + "atom e 3 5; bind E 0 5 0"));
    woods.put("7 conditions in a row", recipe(ladder + named + deep));
    woods.put("7 conditions beside each other", recipe(times(7, "condition") + named + deep + "swap 0 6"));
    woods.put("standard names", recipe("condition; standard 15; standard 10; condition; under 1 0; " + deep));
    woods.put("standard names beside 0", recipe("condition; standard 15; condition; " + deep));
    woods.put("12 names", recipe(tree + tower + times(6, "name") + deep));
    woods.put("12 names, standard ones", recipe("condition; name; " + times(6, "name") + "standard 15; " + deep));
    woods.put("16 formulas", recipe(tree + named + deep + times(8, "atom = 0 0")));
    woods.put("all full", recipe(ladder + tower + times(6, "name") + deep + times(8, "atom e 0 103")));
    return woods;
  }

  public static void main(String[] args) {
    for (Map.Entry<String, List<Object[]>> wood : woods().entrySet()) {
      new GenericwoodSweep(wood.getKey(), wood.getValue()).sweepAll();
    }
    System.out.println(tests + " answers compared, " + wrong + " not as due");
    if (wrong != 0) System.exit(1);
  }
}
