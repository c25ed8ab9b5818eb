import java.util.ArrayDeque;
import java.util.ArrayList;
import java.util.Arrays;
import java.util.HashMap;
import java.util.LinkedHashMap;
import java.util.List;
import java.util.Map;
import java.util.TreeMap;

/** Long runs of calls, the same ones each time, against a plain model that fails by throwing. */
public final class ModelTest {
  private static final int UNKNOWN = -1000001, OUTSIDE = -1000002, STATE = -1000003, ROOM = -1000004, NONE = -1000009;
  private static final int RUNS = 4000, CALLS = 512;

  /** What a thing fails by. */
  private static final class Fails extends Exception {
    private static final long serialVersionUID = 1L;
    final int thing, other, cause;

    Fails(int thing, int other, int cause) {
      super(null, null, false, false);
      this.thing = thing;
      this.other = other;
      this.cause = cause;
    }
  }

  private static final class Item {
    int number, sort, key, v, next = NONE, asked;
    int[] places = {NONE, NONE, NONE, NONE, NONE, NONE};
    boolean held;
  }

  private record Arc(int toThing, int weight, int bridged) { }

  private static final class Loaded {
    final Map<Integer, Integer> nodeOf = new LinkedHashMap<>();
    final List<Integer> things = new ArrayList<>();
    final List<Integer> values = new ArrayList<>();
    final List<List<Arc>> arcs = new ArrayList<>();
    int holes;

    void find(int thing) {
      if (nodeOf.putIfAbsent(thing, things.size()) == null) {
        things.add(thing);
      }
    }
  }

  private static final class Model {
    List<Item> items = new ArrayList<>();
    Loaded loaded = new Loaded();
    Fails latest = null;
    int failures = 0;

    boolean no(int thing) {
      return thing < 0 || thing >= items.size();
    }

    boolean noNode(int node) {
      return node < 0 || node >= loaded.things.size();
    }

    boolean bridge(int thing) {
      return thing != NONE && items.get(thing).sort == 2;
    }

    int thing(int sort, int key, int v) {
      if (sort < 0 || sort > 6) return OUTSIDE;
      if (items.size() == 40) return ROOM;
      Item item = new Item();
      item.number = items.size();
      item.sort = sort;
      item.key = key;
      item.v = v;
      items.add(item);
      return item.number;
    }

    int copy(int thing, int a, int other, int b, int n) {
      if (no(thing) || no(other)) return UNKNOWN;
      if (a < 0 || b < 0 || n < 0 || (long) a + n > 6 || (long) b + n > 6) return -1000010 - 2;
      int[] row = Arrays.copyOfRange(items.get(thing).places, a, a + n);
      for (int i = 0; i < n; i++) {
        if (items.get(other).sort == 4 && bridge(row[i])) return -1000010 - 5;
        items.get(other).places[b + i] = row[i];
      }
      return 1;
    }

    int keyOf(Item t) throws Fails {
      if (t.sort == 6 && !t.held) throw new Fails(t.number, NONE, 1);
      return t.key;
    }

    int valueOf(Item t) throws Fails {
      if (t.sort == 1) return t.v + t.v;
      if (t.sort == 4) return t.v + t.v + 1;
      if (t.sort != 3) return t.v;
      if (t.v == 0) throw new Fails(t.number, NONE, 4);
      return 100 / t.v;
    }

    /** What a node is linked to, NONE for a hole. */
    List<Integer> linksOf(Item t) throws Fails {
      List<Integer> links = new ArrayList<>();
      boolean single = t.sort == 0 || t.sort == 3 || t.sort == 6;
      if (single && t.next != NONE) links.add(t.next);
      if (t.sort == 5) {
        if (t.v < 0 || t.v > 5) throw new Fails(t.number, NONE, 2);
        links.add(t.places[t.v]);
      }
      if (t.sort == 1 || t.sort == 4) {
        for (int other : t.places) links.add(other);
      }
      if (single || t.sort == 4) {
        for (int other : links) {
          if (bridge(other)) throw new Fails(t.number, NONE, 3);
        }
      }
      return links;
    }

    int endOf(Item bridge, int node) throws Fails {
      int end = bridge.places[0];
      if (end == node) end = bridge.places[1];
      if (end == NONE) throw new Fails(bridge.number, NONE, 1);
      if (bridge(end)) throw new Fails(bridge.number, NONE, 3);
      return end;
    }

    Loaded loadFrom(int root, boolean byKeys) throws Fails {
      Loaded fresh = new Loaded();
      Map<Integer, Integer> keys = new HashMap<>();
      fresh.find(root);
      for (int n = 0; n < fresh.things.size(); n++) {
        Item t = items.get(fresh.things.get(n));
        if (byKeys) {
          t.asked++;
          Integer other = keys.putIfAbsent(keyOf(t), t.number);
          if (other != null) throw new Fails(t.number, other, 6);
        }
        t.asked++;
        fresh.values.add(valueOf(t));
        t.asked++;
        List<Arc> arcs = new ArrayList<>();
        for (int link : linksOf(t)) {
          if (link == NONE) {
            fresh.holes++;
          } else if (bridge(link)) {
            Item b = items.get(link);
            b.asked++;
            int end = endOf(b, t.number);
            b.asked++;
            arcs.add(new Arc(end, b.v, 1));
            fresh.find(end);
          } else {
            arcs.add(new Arc(link, 1, 0));
            fresh.find(link);
          }
        }
        fresh.arcs.add(arcs);
      }
      return fresh;
    }

    int load(int root, boolean byKeys) {
      if (no(root)) return UNKNOWN;
      if (bridge(root)) return STATE;
      try {
        loaded = loadFrom(root, byKeys);
        latest = null;
        return loaded.things.size();
      } catch (Fails fails) {
        latest = fails;
        failures++;
        return -1000010 - fails.cause;
      }
    }

    int refused(int what) {
      if (what < 0 || what > 2) return OUTSIDE;
      if (latest == null) return NONE;
      return what == 0 ? latest.thing : what == 1 ? latest.other : latest.cause;
    }

    int arc(int node, int k, int what) {
      if (noNode(node) || k < 0 || k >= loaded.arcs.get(node).size()) return UNKNOWN;
      if (what < 0 || what > 2) return OUTSIDE;
      Arc arc = loaded.arcs.get(node).get(k);
      return what == 0 ? loaded.nodeOf.get(arc.toThing()) : what == 1 ? arc.weight() : arc.bridged();
    }

    int way(int from, int to) {
      if (noNode(from) || noNode(to)) return UNKNOWN;
      Map<Integer, Integer> steps = new HashMap<>(Map.of(from, 0));
      ArrayDeque<Integer> waiting = new ArrayDeque<>(List.of(from));
      while (!waiting.isEmpty()) {
        int n = waiting.remove();
        for (Arc arc : loaded.arcs.get(n)) {
          int end = loaded.nodeOf.get(arc.toThing());
          if (steps.putIfAbsent(end, steps.get(n) + 1) == null) waiting.add(end);
        }
      }
      return steps.getOrDefault(to, NONE);
    }

    int tells(int thing, int what) {
      if (no(thing)) return UNKNOWN;
      if (what < 0 || what > 2) return OUTSIDE;
      Item t = items.get(thing);
      try {
        if (what == 0) return keyOf(t);
        if (what == 1) return valueOf(t);
        return t.sort == 2 ? 2 : linksOf(t).size();
      } catch (Fails fails) {
        return -1000010 - fails.cause;
      }
    }

    int is(int thing, int family) {
      if (no(thing)) return UNKNOWN;
      int sort = items.get(thing).sort;
      switch (family) {
        case 0: return sort != 2 ? 1 : 0;
        case 1: return sort == 1 || sort == 4 || sort == 5 ? 1 : 0;
        case 2: return sort == 2 ? 1 : 0;
        default: return OUTSIDE;
      }
    }

    int count(int what) {
      switch (what) {
        case 0: return items.size();
        case 1: return loaded.things.size();
        case 2: return loaded.arcs.stream().mapToInt(List::size).sum();
        case 3: return failures;
        default: return OUTSIDE;
      }
    }

    int set(int call, int thing, int i, int to) {
      if (no(thing) || ((call == 3 || call == 4) && to != NONE && no(to))) return UNKNOWN;
      Item t = items.get(thing);
      int before = call == 1 ? t.v : call == 2 ? t.key : call == 5 ? (t.held ? 1 : 0) : 1;
      if (call == 4 && (i < 0 || i > 5)) return OUTSIDE;
      if (call == 1) t.v = to;
      if (call == 2) t.key = to;
      if (call == 3) t.next = to;
      if (call == 4) t.places[i] = to;
      if (call == 5) t.held = to == 1;
      return before;
    }

    int clear() {
      int before = items.size();
      items = new ArrayList<>();
      loaded = new Loaded();
      latest = null;
      failures = 0;
      return before;
    }
  }

  /** Numbers that look drawn but are the same in every run of the test. */
  private static final class Numbers {
    private long state;

    Numbers(long seed) {
      state = seed * 0x9E3779B97F4A7C15L + 1;
    }

    int below(int bound) {
      state = state * 6364136223846793005L + 1442695040888963407L;
      return (int) Math.floorMod(state >>> 33, (long) bound);
    }

    boolean oneIn(int n) {
      return below(n) == 0;
    }

    int any() {
      int[] edges = {0, 1, -1, 5, 6, 7, Integer.MIN_VALUE, Integer.MAX_VALUE, NONE, UNKNOWN, 39, 40, 1 << 30};
      return oneIn(3) ? edges[below(edges.length)] : below(200) - 100;
    }
  }

  private static final Map<String, Integer> seen = new TreeMap<>();
  private static int wrong = 0;

  private static final class Run {
    final int run;
    final Numbers numbers;
    final int wildness, things, linked;
    final ObjectLoads x = new ObjectLoads();
    final Model m = new Model();

    Run(int run) {
      this.run = run;
      numbers = new Numbers(run);
      wildness = 4 + 40 * (run % 3);
      things = 3 + numbers.below(38);
      linked = things * (1 + numbers.below(8));
    }

    int someThing() {
      return numbers.oneIn(wildness) ? numbers.any() : numbers.below(Math.max(1, m.items.size()));
    }

    int someNode() {
      return numbers.oneIn(wildness) ? numbers.any() : numbers.below(Math.max(1, m.loaded.things.size()));
    }

    int some(int bound) {
      return numbers.oneIn(wildness) ? numbers.any() : numbers.below(bound);
    }

    int someOther() {
      return numbers.oneIn(12) ? NONE : someThing();
    }

    int someKey() {
      return numbers.oneIn(wildness) ? numbers.any() : numbers.below(600);
    }

    int someV() {
      return numbers.oneIn(wildness) ? numbers.any() : numbers.oneIn(8) ? 0 : 1 + numbers.below(5);
    }

    int someSort() {
      return numbers.oneIn(2) ? numbers.below(2) : some(7);
    }

    void due(String name, int got, int want, int... args) {
      if (name.equals("load") || name.equals("copy") || name.equals("tells")) {
        if (name.equals("load") && want > 9) seen.merge("load of 10 nodes or more", 1, Integer::sum);
        seen.merge(name + (want < -1000009 && want > -1000017 ? " " + want : want < 0 ? " code" : ""), 1, Integer::sum);
      }
      if (got != want) {
        wrong++;
        if (wrong <= 20) {
          System.out.println("run " + run + ": " + name + Arrays.toString(args) + " answered " + got + ", due is " + want);
        }
      }
    }

    void go() {
      for (int c = 0; c < CALLS; c++) {
        if (c < things) {
          makeThing();
        } else if (c < linked || numbers.oneIn(3)) {
          change();
        } else if (numbers.oneIn(3)) {
          loadSome();
        } else {
          ask(numbers.below(12));
        }
      }
    }

    void makeThing() {
      int sort = someSort(), key = someKey(), v = someV();
      due("thing", x.thing(sort, key, v), m.thing(sort, key, v), sort, key, v);
    }

    void loadSome() {
      int root = someThing();
      boolean byKeys = numbers.oneIn(2);
      due("load", x.load(root, byKeys), m.load(root, byKeys), root, byKeys ? 1 : 0);
    }

    void change() {
      int thing = someThing(), other = someOther(), i = some(6), v = someV(), k = someKey();
      boolean on = !numbers.oneIn(4);
      switch (numbers.below(12)) {
        case 0: due("value", x.value(thing, v), m.set(1, thing, 0, v), thing, v); break;
        case 1: due("key", x.key(thing, k), m.set(2, thing, 0, k), thing, k); break;
        case 2: case 3: due("next", x.next(thing, other), m.set(3, thing, 0, other), thing, other); break;
        case 4: due("hold", x.hold(thing, on), m.set(5, thing, 0, on ? 1 : 0), thing, on ? 1 : 0); break;
        case 5: case 6: copySome(); break;
        case 7: if (numbers.oneIn(60)) due("clear", x.clear(), m.clear()); else makeThing(); break;
        default: due("place", x.place(thing, i, other), m.set(4, thing, i, other), thing, i, other); break;
      }
    }

    void copySome() {
      int thing = someThing(), other = numbers.oneIn(3) ? thing : someThing();
      int a = some(4), b = some(4), n = some(5);
      due("copy", x.copy(thing, a, other, b, n), m.copy(thing, a, other, b, n), thing, a, other, b, n);
    }

    void ask(int call) {
      int t = someThing(), n = someNode(), to = someNode(), k = some(6), what = some(3);
      Loaded l = m.loaded;
      switch (call) {
        case 0: due("refused", x.refused(what), m.refused(what), what); break;
        case 1: due("node", x.node(t), m.no(t) ? UNKNOWN : l.nodeOf.getOrDefault(t, NONE), t); break;
        case 2: due("of", x.of(n), m.noNode(n) ? UNKNOWN : l.things.get(n), n); break;
        case 3: due("column", x.column(n), m.noNode(n) ? UNKNOWN : l.values.get(n), n); break;
        case 4: due("arcs", x.arcs(n), m.noNode(n) ? UNKNOWN : l.arcs.get(n).size(), n); break;
        case 5: due("arc", x.arc(n, k, what), m.arc(n, k, what), n, k, what); break;
        case 6: due("way", x.way(n, to), m.way(n, to), n, to); break;
        case 7: due("holes", x.holes(), l.holes); break;
        case 8: due("asked", x.asked(t), m.no(t) ? UNKNOWN : m.items.get(t).asked, t); break;
        case 9: due("tells", x.tells(t, what), m.tells(t, what), t, what); break;
        case 10: due("is", x.is(t, what), m.is(t, what), t, what); break;
        default:
          int counted = some(4);
          due("count", x.count(counted), m.count(counted), counted);
      }
    }
  }

  public static void main(String[] args) {
    for (int run = 0; run < RUNS; run++) {
      new Run(run).go();
    }
    System.out.println(seen);
    System.out.println(wrong == 0 ? "all answers are as due" : wrong + " answers are not as due");
    if (wrong != 0) {
      System.exit(1);
    }
  }
}
