import java.util.ArrayList;
import java.util.List;
import java.util.function.Supplier;
import java.util.function.ToIntFunction;

/**
 * 'then nothing changes', and 'all that was LOADED before stays then as it was': each refused call is made on one of two
 * twins, and then all that can be asked of them must be answered alike.
 */
public final class NothingChangesTest {
  private static final int UNKNOWN = -1000001, OUTSIDE = -1000002, STATE = -1000003, ROOM = -1000004, NONE = -1000009;
  private static final int NULL = -1000011, INDEX = -1000012, CAST = -1000013, ARITHMETIC = -1000014;
  private static final int STORE = -1000015, DOUBLE = -1000016;
  private static final int POINT = 0, CITY = 1, BRIDGE = 2, BROKEN = 3, MASKED = 4, SHORT = 5, EMPTY = 6;
  private static final int MIN = Integer.MIN_VALUE, MAX = Integer.MAX_VALUE;

  /** So many things are looked into at once that the calls on one object stay under 512. */
  private static final int THINGS_AT_ONCE = 6;

  private static int looks = 0;
  private static int wrong = 0;

  /** A call on an object, as told and as made. */
  private record Call(String told, ToIntFunction<ObjectLoads> made) { }

  /** What can be made again and again the same way; its last thing is a SHORT, with which the others are looked into. */
  private record Recipe(String name, Supplier<ObjectLoads> maker, int things, int nodes, int bridge) { }

  private static void fault(String words) {
    wrong++;
    if (wrong <= 30) {
      System.out.println(words);
    }
  }

  private static void due(String call, int got, int want) {
    if (got != want) {
      fault(call + " answered " + got + ", due is " + want);
    }
  }

  private static ObjectLoads unloaded() {
    ObjectLoads x = new ObjectLoads();
    for (int sort = POINT; sort <= EMPTY; sort++) {
      x.thing(sort, 10 + sort, 1 + sort);
    }
    x.thing(SHORT, 17, 2);
    x.hold(POINT, true);
    x.next(POINT, CITY);
    x.next(BROKEN, EMPTY);
    x.next(EMPTY, BROKEN);
    x.place(CITY, 0, BRIDGE);
    x.place(CITY, 2, BROKEN);
    x.place(CITY, 5, POINT);
    x.place(BRIDGE, 0, CITY);
    x.place(BRIDGE, 1, MASKED);
    x.place(MASKED, 1, EMPTY);
    x.place(MASKED, 4, SHORT);
    x.place(SHORT, 3, POINT);
    x.place(7, 2, CITY);
    x.place(POINT, 1, MASKED);
    return x;
  }

  /** LOADED, then changed, so that what is LOADED and what would be are not the same. */
  private static ObjectLoads loaded() {
    ObjectLoads x = unloaded();
    x.value(SHORT, 3);
    due("load", x.load(7, false), 7);
    x.value(BROKEN, 20);
    x.place(CITY, 3, CITY);
    x.next(POINT, EMPTY);
    return x;
  }

  /** The same behind a load() that ended by DOUBLE. */
  private static ObjectLoads refused() {
    ObjectLoads x = loaded();
    x.hold(EMPTY, true);
    x.key(EMPTY, 10);
    due("load", x.load(POINT, true), DOUBLE);
    return x;
  }

  /** 40 THINGS, all but the BRIDGE LOADED. */
  private static ObjectLoads full() {
    ObjectLoads x = new ObjectLoads();
    for (int i = 0; i < 39; i++) {
      x.thing(i == 20 ? BRIDGE : i % 2 == 0 ? CITY : POINT, i, i);
    }
    x.thing(SHORT, 39, 5);
    for (int i = 0; i < 39; i++) {
      if (i % 2 == 0) {
        x.place(i, i % 6, i + 1);
      } else {
        x.next(i, i + 1 == 20 ? 22 : i + 1);
      }
    }
    x.place(0, 5, 20);
    x.place(20, 0, 21);
    due("load", x.load(0, true), 39);
    return x;
  }

  private static List<Recipe> recipes() {
    return List.of(
        new Recipe("nothing LOADED", NothingChangesTest::unloaded, 8, 0, BRIDGE),
        new Recipe("LOADED", NothingChangesTest::loaded, 8, 7, BRIDGE),
        new Recipe("LOADED, then refused", NothingChangesTest::refused, 8, 7, BRIDGE),
        new Recipe("full", NothingChangesTest::full, 40, 39, 20));
  }

  private static List<Recipe> smallRecipes() {
    return recipes().subList(0, 3);
  }

  /** What is LOADED. */
  private static List<Integer> graph(ObjectLoads x) {
    List<Integer> told = new ArrayList<>();
    int nodes = x.count(1);
    told.add(nodes);
    told.add(x.count(2));
    told.add(x.holes());
    for (int n = 0; n < nodes; n++) {
      told.add(x.of(n));
      told.add(x.column(n));
      int arcs = x.arcs(n);
      told.add(arcs);
      for (int k = 0; k < arcs; k++) {
        for (int what = 0; what <= 2; what++) {
          told.add(x.arc(n, k, what));
        }
      }
    }
    return told;
  }

  private static List<Integer> ways(ObjectLoads x) {
    List<Integer> told = new ArrayList<>();
    int nodes = x.count(1);
    for (int n = 0; n < nodes; n++) {
      told.add(x.way(0, n));
      told.add(x.way(n, 0));
      told.add(x.way(n, nodes - 1));
    }
    for (int t = 0; t < x.count(0); t++) {
      told.add(x.node(t));
    }
    return told;
  }

  /** What the THINGS tell and how often they were asked. */
  private static List<Integer> told(ObjectLoads x) {
    List<Integer> told = new ArrayList<>();
    int things = x.count(0);
    told.add(things);
    for (int t = 0; t < things; t++) {
      for (int what = 0; what <= 2; what++) {
        told.add(x.tells(t, what));
      }
      told.add(x.asked(t));
    }
    return told;
  }

  private static List<Integer> causes(ObjectLoads x) {
    return List.of(x.refused(0), x.refused(1), x.refused(2), x.count(3));
  }

  /**
   * V, KEY, HELD, NEXT and PLACES of some THINGS. With the same KEY in all, a load() by KEYS ends at the first NODE that
   * the ROOT is linked to, and refused() tells which it is; a BRIDGE on the way tells that it was asked.
   */
  private static List<Integer> inside(ObjectLoads x, int from, int bridge) {
    List<Integer> told = new ArrayList<>();
    int things = x.count(0);
    int probe = things - 1;
    for (int t = 0; t < things; t++) {
      told.add(x.key(t, 7));
      told.add(x.hold(t, true));
    }
    for (int i = 0; i <= 5; i++) {
      told.add(x.value(probe, i));
      link(x, probe, bridge, told);
    }
    x.value(probe, 0);
    for (int t = from; t < from + THINGS_AT_ONCE && t < probe; t++) {
      told.add(x.value(t, 1));
      if (x.is(t, 0) == 1) {
        link(x, t, bridge, told);
      }
      for (int i = 0; i <= 5; i++) {
        x.copy(t, i, probe, 0, 1);
        link(x, probe, bridge, told);
      }
    }
    return told;
  }

  private static void link(ObjectLoads x, int root, int bridge, List<Integer> told) {
    int before = x.asked(bridge);
    told.add(x.load(root, true));
    told.add(x.refused(0));
    told.add(x.asked(bridge) - before);
  }

  /** All that can be asked of what a recipe makes once a call was made on it; null: no call. */
  private static List<List<Integer>> all(Recipe recipe, Call call) {
    List<List<Integer>> all = new ArrayList<>();
    all.add(graph(made(recipe, call)));
    all.add(ways(made(recipe, call)));
    all.add(told(made(recipe, call)));
    all.add(causes(made(recipe, call)));
    for (int from = 0; from < recipe.things; from += THINGS_AT_ONCE) {
      all.add(inside(made(recipe, call), from, recipe.bridge));
    }
    return all;
  }

  private static ObjectLoads made(Recipe recipe, Call call) {
    ObjectLoads x = recipe.maker.get();
    if (call != null) {
      call.made.applyAsInt(x);
    }
    return x;
  }

  private static void changesNothing(Recipe recipe, List<List<Integer>> before, Call call, int code) {
    looks++;
    due(recipe.name + ": " + call.told, call.made.applyAsInt(recipe.maker.get()), code);
    if (!all(recipe, call).equals(before)) {
      fault(recipe.name + ": " + call.told + " is refused, but something changed");
    }
  }

  private static void refuse(Recipe recipe) {
    List<List<Integer>> before = all(recipe, null);
    int things = recipe.things;
    for (int no : new int[] {MIN, NONE, -1, things, 40, MAX}) {
      for (Call call : callsWithNoThing(no, things - 1)) {
        changesNothing(recipe, before, call, UNKNOWN);
      }
    }
    for (int no : new int[] {MIN, NONE, -1, recipe.nodes, 40, MAX}) {
      for (Call call : callsWithNoNode(no)) {
        changesNothing(recipe, before, call, UNKNOWN);
      }
    }
    for (int no : new int[] {MIN, NONE, -1, 7, MAX}) {
      for (Call call : callsOutside(no, things - 1, recipe.nodes > 0)) {
        changesNothing(recipe, before, call, OUTSIDE);
      }
      for (Call call : callsBeyondPlaces(no, things - 1)) {
        changesNothing(recipe, before, call, INDEX);
      }
    }
    changesNothing(recipe, before, new Call("place 6", x -> x.place(0, 6, NONE)), OUTSIDE);
    changesNothing(recipe, before, new Call("load of a BRIDGE", x -> x.load(recipe.bridge, false)), STATE);
    changesNothing(recipe, before, new Call("load of a BRIDGE by KEYS", x -> x.load(recipe.bridge, true)), STATE);
    if (things == 40) {
      for (int sort = POINT; sort <= EMPTY; sort++) {
        int of = sort;
        changesNothing(recipe, before, new Call("thing of sort " + sort, x -> x.thing(of, 1, 1)), ROOM);
      }
    }
  }

  private static List<Call> callsWithNoThing(int no, int last) {
    List<Call> calls = new ArrayList<>(List.of(
        new Call("value(" + no + ")", x -> x.value(no, 9)),
        new Call("key(" + no + ")", x -> x.key(no, 9)),
        new Call("next(" + no + ", 0)", x -> x.next(no, 0)),
        new Call("next(" + no + ", NONE)", x -> x.next(no, NONE)),
        new Call("place(" + no + ", 0, 0)", x -> x.place(no, 0, 0)),
        new Call("place(" + no + ", 0, NONE)", x -> x.place(no, 0, NONE)),
        new Call("place(" + no + ", 6, 0)", x -> x.place(no, 6, 0)),
        new Call("hold(" + no + ", true)", x -> x.hold(no, true)),
        new Call("hold(" + no + ", false)", x -> x.hold(no, false)),
        new Call("copy(" + no + ", ..)", x -> x.copy(no, 0, 1, 0, 6)),
        new Call("copy(1, 0, " + no + ", ..)", x -> x.copy(1, 0, no, 0, 6)),
        new Call("load(" + no + ", false)", x -> x.load(no, false)),
        new Call("load(" + no + ", true)", x -> x.load(no, true)),
        new Call("node(" + no + ")", x -> x.node(no)),
        new Call("asked(" + no + ")", x -> x.asked(no)),
        new Call("tells(" + no + ", 1)", x -> x.tells(no, 1)),
        new Call("is(" + no + ", 1)", x -> x.is(no, 1))));
    if (no != NONE) {
      calls.add(new Call("next(0, " + no + ")", x -> x.next(0, no)));
      calls.add(new Call("next(1, " + no + ")", x -> x.next(1, no)));
      calls.add(new Call("place(0, 1, " + no + ")", x -> x.place(0, 1, no)));
      calls.add(new Call("place(last, 2, " + no + ")", x -> x.place(last, 2, no)));
      calls.add(new Call("place(0, 6, " + no + ")", x -> x.place(0, 6, no)));
    }
    return calls;
  }

  private static List<Call> callsWithNoNode(int no) {
    return List.of(
        new Call("of(" + no + ")", x -> x.of(no)),
        new Call("column(" + no + ")", x -> x.column(no)),
        new Call("arcs(" + no + ")", x -> x.arcs(no)),
        new Call("arc(" + no + ", 0, 0)", x -> x.arc(no, 0, 0)),
        new Call("arc(" + no + ", 0, 3)", x -> x.arc(no, 0, 3)),
        new Call("arc(0, " + no + ", 0)", x -> x.arc(0, no, 0)),
        new Call("way(" + no + ", 0)", x -> x.way(no, 0)),
        new Call("way(0, " + no + ")", x -> x.way(0, no)));
  }

  private static List<Call> callsOutside(int no, int last, boolean loaded) {
    List<Call> calls = new ArrayList<>(List.of(
        new Call("thing(" + no + ", ..)", x -> x.thing(no, 1, 1)),
        new Call("place(0, " + no + ", NONE)", x -> x.place(0, no, NONE)),
        new Call("place(last, " + no + ", 0)", x -> x.place(last, no, 0)),
        new Call("refused(" + no + ")", x -> x.refused(no)),
        new Call("tells(0, " + no + ")", x -> x.tells(0, no)),
        new Call("is(0, " + no + ")", x -> x.is(0, no)),
        new Call("count(" + no + ")", x -> x.count(no))));
    if (loaded) {
      calls.add(new Call("arc(0, 0, " + no + ")", x -> x.arc(0, 0, no)));
    }
    return calls;
  }

  private static List<Call> callsBeyondPlaces(int no, int last) {
    return List.of(
        new Call("copy(1, " + no + ", last, 0, 1)", x -> x.copy(1, no, last, 0, 1)),
        new Call("copy(1, 0, last, " + no + ", 1)", x -> x.copy(1, 0, last, no, 1)),
        new Call("copy(1, 0, last, 0, " + no + ")", x -> x.copy(1, 0, last, 0, no)),
        new Call("copy(1, 0, 1, 5, 2)", x -> x.copy(1, 0, 1, 5, 2)),
        new Call("copy(0, " + no + ", 0, 0, 0)", x -> x.copy(0, no, 0, 0, 0)));
  }

  /** Calls that only ask change nothing either, what tells() asks not counting. */
  private static void onlyAsked(Recipe recipe) {
    List<List<Integer>> before = all(recipe, null);
    List<Call> calls = List.of(
        new Call("all tells", x -> asks(recipe, t -> x.tells(t, 0) + x.tells(t, 1) + x.tells(t, 2))),
        new Call("all node, asked, is", x -> asks(recipe, t -> x.node(t) + x.asked(t) + x.is(t, 0))),
        new Call("all of, column, arcs", x -> asks(recipe, n -> x.of(n) + x.column(n) + x.arcs(n))),
        new Call("all way", x -> asks(recipe, n -> x.way(0, n) + x.way(n, 0))),
        new Call("arc, holes", x -> x.arc(0, 0, 0) + x.arc(0, 0, 1) + x.arc(0, 0, 2) + x.holes()),
        new Call("refused, count", x -> x.refused(0) + x.refused(1) + x.refused(2) + x.count(0) + x.count(3)),
        new Call("copy of none", x -> x.copy(0, 0, 1, 0, 0)),
        new Call("copy in place", x -> x.copy(1, 0, 1, 0, 6)));
    for (Call call : calls) {
      looks++;
      if (!all(recipe, call).equals(before)) {
        fault(recipe.name + ": " + call.told + " only asks, but something changed");
      }
    }
  }

  private static int asks(Recipe recipe, ToIntFunction<Integer> ask) {
    int sum = 0;
    for (int no = 0; no < recipe.things; no++) {
      sum += ask.applyAsInt(no);
    }
    return sum;
  }

  /** A look that sees no changes would pass every test: each of these must be seen. */
  private static void changesAreSeen(Recipe recipe) {
    List<List<Integer>> before = all(recipe, null);
    List<Call> calls = new ArrayList<>();
    for (int thing = 0; thing < recipe.things; thing++) {
      int t = thing;
      calls.add(new Call("value(" + t + ")", x -> x.value(t, -4)));
      calls.add(new Call("key(" + t + ")", x -> x.key(t, -4)));
      calls.add(new Call("hold(" + t + ")", x -> {
        int was = x.hold(t, true);
        return x.hold(t, was == 0);
      }));
      for (int place = 0; place <= 5; place++) {
        int i = place;
        calls.add(new Call("place(" + t + ", " + i + ", 6)", x -> x.place(t, i, 6)));
      }
    }
    calls.add(new Call("next(3, NONE)", x -> x.next(3, NONE)));
    calls.add(new Call("next(3, 1)", x -> x.next(3, 1)));
    calls.add(new Call("load(1)", x -> x.load(1, false)));
    calls.add(new Call("load by KEYS", x -> x.load(0, true)));
    if (recipe.things < 40) {
      calls.add(new Call("thing", x -> x.thing(SHORT, 17, 2)));
    }
    for (Call call : calls) {
      looks++;
      if (all(recipe, call).equals(before) && !isAlready(recipe, call)) {
        fault(recipe.name + ": " + call.told + " changed something, but it was not seen");
      }
    }
  }

  /** The only PLACES of the recipes that hold 6 already. */
  private static boolean isAlready(Recipe recipe, Call call) {
    return recipe.things == 8 && call.told.equals("place(4, 1, 6)");
  }

  /** What a load() that ends by a CAUSE may change: the CAUSE that is told, and how often THINGS were asked. */
  private static void failing(String cause, int code, ToIntFunction<ObjectLoads> spoil, int root, boolean byKeys) {
    for (Recipe recipe : smallRecipes()) {
      Recipe spoilt = new Recipe(cause, () -> {
        ObjectLoads x = recipe.maker.get();
        spoil.applyAsInt(x);
        return x;
      }, recipe.things, recipe.nodes, recipe.bridge);
      Call load = new Call("load", x -> x.load(root, byKeys));
      looks++;
      due(recipe.name + ", " + cause, load.made.applyAsInt(spoilt.maker.get()), code);
      sameBut(spoilt, recipe.name + ", " + cause, load);
    }
  }

  private static void sameBut(Recipe recipe, String name, Call load) {
    if (!graph(made(recipe, load)).equals(graph(made(recipe, null)))) {
      fault(name + ": what was LOADED is not as it was");
    }
    if (!ways(made(recipe, load)).equals(ways(made(recipe, null)))) {
      fault(name + ": the ways are not as they were");
    }
    ObjectLoads x = made(recipe, load);
    ObjectLoads y = made(recipe, null);
    due(name + ", load()s that ended by a CAUSE", x.count(3), y.count(3) + 1);
    for (int from = 0; from < recipe.things; from += THINGS_AT_ONCE) {
      if (!inside(made(recipe, load), from, recipe.bridge).equals(inside(made(recipe, null), from, recipe.bridge))) {
        fault(name + ": the THINGS are not as they were");
      }
    }
  }

  private static void failingLoads() {
    failing("NULL of a KEY", NULL, x -> x.hold(EMPTY, false), EMPTY, true);
    failing("NULL of a KEY behind others", NULL, x -> x.hold(EMPTY, false) + x.key(EMPTY, 99) + x.next(POINT, EMPTY), POINT, true);
    failing("NULL of a BRIDGE", NULL, x -> x.place(BRIDGE, 1, NONE), CITY, false);
    failing("NULL of a BRIDGE behind ARCS", NULL, x -> x.place(BRIDGE, 1, NONE) + x.copy(CITY, 0, CITY, 4, 1), 7, true);
    failing("INDEX", INDEX, x -> x.value(SHORT, 6), SHORT, false);
    failing("INDEX behind others", INDEX, x -> x.value(SHORT, -1), 7, false);
    failing("CAST by NEXT", CAST, x -> x.next(EMPTY, BRIDGE), POINT + 7, false);
    failing("CAST of a MASKED", CAST, x -> x.place(MASKED, 5, BRIDGE), 7, false);
    failing("CAST of a BRIDGE", CAST, x -> x.place(BRIDGE, 1, BRIDGE), 7, false);
    failing("ARITHMETIC", ARITHMETIC, x -> x.value(BROKEN, 0), BROKEN, true);
    failing("ARITHMETIC behind others", ARITHMETIC, x -> x.value(BROKEN, 0), 7, false);
    failing("DOUBLE", DOUBLE, x -> x.key(MASKED, 17), 7, true);
    failing("DOUBLE at the end", DOUBLE, x -> x.hold(EMPTY, true) + x.key(BROKEN, 16) + x.key(EMPTY, 16), BROKEN, true);
  }

  /** A copy() that ends by STORE changes PLACES of the other one, and nothing else. */
  private static void failingCopy() {
    for (Recipe recipe : smallRecipes()) {
      looks++;
      Call copy = new Call("copy", x -> x.copy(CITY, 0, MASKED, 1, 1));
      due(recipe.name + ", STORE at once", copy.made.applyAsInt(recipe.maker.get()), STORE);
      if (!all(recipe, copy).equals(all(recipe, null))) {
        fault(recipe.name + ": STORE at once, but something changed");
      }
      ObjectLoads x = recipe.maker.get();
      x.place(CITY, 1, BRIDGE);
      x.place(CITY, 0, POINT);
      List<List<Integer>> before = List.of(graph(x), causes(x));
      due(recipe.name + ", STORE", x.copy(CITY, 0, MASKED, 0, 6), STORE);
      if (!before.equals(List.of(graph(x), causes(x)))) {
        fault(recipe.name + ": STORE changed what is LOADED or what was refused");
      }
    }
  }

  /** What is LOADED stays as it was LOADED, whatever becomes of the THINGS. */
  private static void changesBehindTheLoad() {
    ObjectLoads x = loaded();
    List<Integer> before = graph(x);
    for (int t = 0; t < 8; t++) {
      x.value(t, -77);
      x.key(t, 5);
      x.hold(t, t % 2 == 0);
      x.next(t, (t + 3) % 8);
      for (int i = 0; i <= 5; i++) {
        x.place(t, i, i == 3 ? NONE : (t + i) % 8);
      }
    }
    x.thing(CITY, 1, 1);
    looks++;
    if (!graph(x).equals(before)) {
      fault("changes of THINGS changed what is LOADED");
    }
  }

  public static void main(String[] args) {
    for (Recipe recipe : recipes()) {
      changesAreSeen(recipe);
      refuse(recipe);
    }
    for (Recipe recipe : smallRecipes()) {
      onlyAsked(recipe);
    }
    failingLoads();
    failingCopy();
    changesBehindTheLoad();
    System.out.println(looks + " calls looked behind: " + (wrong == 0 ? "all is as due" : wrong + " things are not as due"));
    if (wrong != 0) {
      System.exit(1);
    }
  }
}
