import java.util.function.IntUnaryOperator;

/** The promises 1 to 22, sentence by sentence: each one that names a boundary case has a test of its own. */
public final class EdgesTest {
  private static final int UNKNOWN = -1000001, OUTSIDE = -1000002, STATE = -1000003, ROOM = -1000004, NONE = -1000009;
  private static final int NULL = -1000011, INDEX = -1000012, CAST = -1000013, ARITHMETIC = -1000014;
  private static final int STORE = -1000015, DOUBLE = -1000016;
  private static final int POINT = 0, CITY = 1, BRIDGE = 2, BROKEN = 3, MASKED = 4, SHORT = 5, EMPTY = 6;
  private static final int MIN = Integer.MIN_VALUE, MAX = Integer.MAX_VALUE;

  /** Numbers that a KEY or a V may be: the edges, and the codes, which are nothing but numbers there. */
  private static final int[] EDGES = {MIN, MIN + 1, DOUBLE, NONE, ROOM, STATE, OUTSIDE, UNKNOWN, -1, 0, 1, MAX - 1, MAX};

  private static String sentence = "";
  private static int sentences = 0;
  private static int wrong = 0;

  private static void says(int promise, String words) {
    sentence = "Promise " + promise + ": " + words;
    sentences++;
  }

  private static void due(String call, int got, int want) {
    if (got != want) {
      wrong++;
      System.out.println("'" + sentence + "': " + call + " answered " + got + ", due is " + want);
    }
  }

  /** Asks with numbers just below and just above 0 .. last, and with the least and the greatest ones. */
  private static void dueBeyond(String call, int last, int code, IntUnaryOperator ask) {
    for (int no : new int[] {MIN, MIN + 1, NONE, -2, -1, last + 1, last + 2, MAX - 1, MAX}) {
      due(call + " with " + no, ask.applyAsInt(no), code);
    }
  }

  /** Things with the keys 100, 101 .. and V 1. */
  private static ObjectLoads of(int... sorts) {
    ObjectLoads x = new ObjectLoads();
    for (int i = 0; i < sorts.length; i++) {
      x.thing(sorts[i], 100 + i, 1);
    }
    return x;
  }

  /** 40 things of one sort, the keys and V their numbers. */
  private static ObjectLoads full(int sort) {
    ObjectLoads x = new ObjectLoads();
    for (int i = 0; i < 40; i++) {
      x.thing(sort, i, i);
    }
    return x;
  }

  /** 40 POINTS, each NEXT of the one ahead of it, LOADED from the first. */
  private static ObjectLoads fullRow() {
    ObjectLoads x = full(POINT);
    for (int i = 1; i < 40; i++) {
      x.next(i - 1, i);
    }
    due("load of 40 in a row", x.load(0, true), 40);
    return x;
  }

  private static void newObjectHasNoThings() {
    says(1, "No THINGS");
    ObjectLoads x = new ObjectLoads();
    due("count(0)", x.count(0), 0);
    for (int no : new int[] {MIN, -1, 0, 1, 39, 40, MAX, NONE}) {
      due("value", x.value(no, 1), UNKNOWN);
      due("key", x.key(no, 1), UNKNOWN);
      due("next", x.next(no, NONE), UNKNOWN);
      due("next, itself", x.next(no, no), UNKNOWN);
      due("place", x.place(no, 0, NONE), UNKNOWN);
      due("hold", x.hold(no, true), UNKNOWN);
      due("copy", x.copy(no, 0, no, 0, 0), UNKNOWN);
      due("load", x.load(no, false), UNKNOWN);
      due("load by KEYS", x.load(no, true), UNKNOWN);
      due("node", x.node(no), UNKNOWN);
      due("asked", x.asked(no), UNKNOWN);
      due("tells", x.tells(no, 0), UNKNOWN);
      due("is", x.is(no, 0), UNKNOWN);
    }
    due("clear", x.clear(), 0);
    due("the first one is 0", x.thing(POINT, 0, 0), 0);
  }

  private static void newObjectHasNothingLoaded() {
    says(1, "nothing is LOADED");
    ObjectLoads x = new ObjectLoads();
    for (int no : new int[] {MIN, -1, 0, 1, 39, 40, MAX, NONE}) {
      due("of", x.of(no), UNKNOWN);
      due("column", x.column(no), UNKNOWN);
      due("arcs", x.arcs(no), UNKNOWN);
      due("arc", x.arc(no, 0, 0), UNKNOWN);
      due("way", x.way(no, no), UNKNOWN);
    }
    due("holes", x.holes(), 0);
    due("count(1)", x.count(1), 0);
    due("count(2)", x.count(2), 0);
    due("count(3)", x.count(3), 0);
    for (int what = 0; what <= 2; what++) {
      due("refused", x.refused(what), NONE);
    }
    x.thing(CITY, 0, 0);
    due("THINGS are not LOADED by coming: count(1)", x.count(1), 0);
    due("node", x.node(0), NONE);
    due("of", x.of(0), UNKNOWN);
    due("holes", x.holes(), 0);
  }

  private static void newObjectsShareNothing() {
    says(1, "each object has its own");
    ObjectLoads x = of(POINT, POINT);
    x.load(1, false);
    ObjectLoads y = new ObjectLoads();
    due("count(0) of another", y.count(0), 0);
    due("count(1) of another", y.count(1), 0);
    y.thing(BROKEN, 5, 0);
    y.load(0, false);
    y.clear();
    due("count(0) of the first", x.count(0), 2);
    due("of(0) of the first", x.of(0), 1);
    due("count(3) of the first", x.count(3), 0);
  }

  private static void thingItsNumber() {
    says(2, "A THING: its number");
    for (int sort = POINT; sort <= EMPTY; sort++) {
      ObjectLoads x = new ObjectLoads();
      for (int i = 0; i < 40; i++) {
        due("sort " + sort, x.thing(sort, EDGES[i % EDGES.length], EDGES[(i + 1) % EDGES.length]), i);
      }
      due("count(0)", x.count(0), 40);
    }
  }

  private static void thingOutside() {
    says(2, "OUTSIDE");
    ObjectLoads x = new ObjectLoads();
    dueBeyond("sort", EMPTY, OUTSIDE, no -> x.thing(no, 1, 1));
    due("count(0)", x.count(0), 0);
    due("the first one is 0 all the same", x.thing(EMPTY, 1, 1), 0);
    dueBeyond("sort", EMPTY, OUTSIDE, no -> x.thing(no, 1, 1));
    due("count(0)", x.count(0), 1);
  }

  private static void thingRoom() {
    says(2, "ROOM");
    for (int sort = POINT; sort <= EMPTY; sort++) {
      ObjectLoads x = full(sort);
      due("the 40th", x.key(39, -5), 39);
      for (int next = POINT; next <= EMPTY; next++) {
        due("the one behind it", x.thing(next, 1, 1), ROOM);
      }
      dueBeyond("OUTSIDE is told ahead", EMPTY, OUTSIDE, no -> x.thing(no, 1, 1));
      due("count(0)", x.count(0), 40);
      due("the 40th is as it was", x.key(39, 0), -5);
      due("40", x.key(40, 0), UNKNOWN);
      due("clear", x.clear(), 40);
      due("room again", x.thing(POINT, 1, 1), 0);
    }
  }

  private static void valueWhatItWas() {
    says(3, "V of a THING becomes v: what it was. (It may be any number.)");
    ObjectLoads x = full(POINT);
    for (int t : new int[] {0, 1, 38, 39}) {
      int was = t;
      for (int edge : EDGES) {
        due("THING " + t, x.value(t, edge), was);
        due("it tells it", x.tells(t, 1), edge);
        due("its KEY stays", x.tells(t, 0), t);
        was = edge;
      }
      due("THING " + t, x.value(t, t), was);
    }
    for (int t = 0; t < 40; t++) {
      due("each has its own", x.value(t, 0), t);
    }
  }

  private static void valueUnknown() {
    says(3, "UNKNOWN");
    ObjectLoads x = of(POINT, POINT);
    dueBeyond("of 2", 1, UNKNOWN, no -> x.value(no, 9));
    due("V of 0", x.tells(0, 1), 1);
    due("V of 1", x.tells(1, 1), 1);
    ObjectLoads y = full(CITY);
    dueBeyond("of 40", 39, UNKNOWN, no -> y.value(no, 9));
  }

  private static void keyLikewise() {
    says(4, "KEY, likewise");
    ObjectLoads x = full(EMPTY);
    for (int t : new int[] {0, 1, 38, 39}) {
      int was = t;
      for (int edge : EDGES) {
        due("THING " + t + ", not HELD", x.key(t, edge), was);
        due("its V stays", x.tells(t, 1), t);
        was = edge;
      }
      x.hold(t, true);
      due("it tells it", x.tells(t, 0), was);
      due("THING " + t, x.key(t, t), was);
    }
    for (int t = 0; t < 40; t++) {
      due("each has its own", x.key(t, 0), t);
    }
  }

  private static void keyUnknown() {
    says(4, "UNKNOWN, likewise");
    ObjectLoads x = of(POINT, POINT);
    dueBeyond("of 2", 1, UNKNOWN, no -> x.key(no, 9));
    due("KEY of 0", x.tells(0, 0), 100);
    due("KEY of 1", x.tells(1, 0), 101);
    ObjectLoads y = full(CITY);
    dueBeyond("of 40", 39, UNKNOWN, no -> y.key(no, 9));
  }

  private static void nextBecomes() {
    says(5, "NEXT of a THING becomes another one (NONE: none): 1");
    ObjectLoads x = full(POINT);
    for (int other : new int[] {39, 0, 1, 38}) {
      due("next(39, " + other + ")", x.next(39, other), 1);
      due("load", x.load(39, false), other == 39 ? 1 : 2);
      due("it leads to", x.of(x.arc(0, 0, 0)), other);
    }
    due("none", x.next(39, NONE), 1);
    due("load", x.load(39, false), 1);
    due("arcs", x.arcs(0), 0);
    due("none, though it was none", x.next(39, NONE), 1);
    for (int sort = POINT; sort <= EMPTY; sort++) {
      ObjectLoads y = of(POINT, sort, BRIDGE);
      due("of sort " + sort, y.next(1, 0), 1);
      due("of sort " + sort + ", to a BRIDGE", y.next(1, 2), 1);
      due("to sort " + sort, y.next(0, 1), 1);
    }
  }

  private static void nextUnknown() {
    says(5, "UNKNOWN");
    ObjectLoads x = of(POINT, POINT);
    x.next(0, 1);
    dueBeyond("the THING", 1, UNKNOWN, no -> x.next(no, 0));
    dueBeyond("the THING, to none", 1, UNKNOWN, no -> x.next(no, NONE));
    dueBeyond("the other one", 1, UNKNOWN, no -> x.next(0, no == NONE ? -3 : no));
    dueBeyond("both", 1, UNKNOWN, no -> x.next(no, no));
    due("load", x.load(0, false), 2);
    due("NEXT of 0 is as it was", x.of(1), 1);
    ObjectLoads y = full(POINT);
    dueBeyond("the other one of 40", 39, UNKNOWN, no -> y.next(39, no == NONE ? -3 : no));
  }

  private static void placeBecomes() {
    says(6, "PLACE i of a THING, likewise");
    for (int i = 0; i <= 5; i++) {
      ObjectLoads x = full(CITY);
      for (int other : new int[] {39, 0, 1, 38}) {
        due("place(39, " + i + ", " + other + ")", x.place(39, i, other), 1);
        due("load", x.load(39, false), other == 39 ? 1 : 2);
        due("arcs", x.arcs(0), 1);
        due("it leads to", x.of(x.arc(0, 0, 0)), other);
      }
      due("none", x.place(39, i, NONE), 1);
      due("load", x.load(39, false), 1);
      due("holes", x.holes(), 6);
      due("none, though it was none", x.place(39, i, NONE), 1);
    }
    for (int sort = POINT; sort <= EMPTY; sort++) {
      ObjectLoads y = of(CITY, sort, BRIDGE);
      due("of sort " + sort, y.place(1, 0, 0), 1);
      due("of sort " + sort + ", to a BRIDGE", y.place(1, 5, 2), 1);
      due("to sort " + sort, y.place(0, 0, 1), 1);
    }
  }

  private static void placeUnknown() {
    says(6, "UNKNOWN");
    ObjectLoads x = of(CITY, POINT);
    x.place(0, 0, 1);
    dueBeyond("the THING", 1, UNKNOWN, no -> x.place(no, 0, 0));
    dueBeyond("the THING, to none", 1, UNKNOWN, no -> x.place(no, 0, NONE));
    dueBeyond("the other one", 1, UNKNOWN, no -> x.place(0, 0, no == NONE ? -3 : no));
    dueBeyond("UNKNOWN is told ahead of OUTSIDE", 1, UNKNOWN, no -> x.place(no, no, 0));
    dueBeyond("the other one is, too", 1, UNKNOWN, no -> x.place(0, 6, no == NONE ? -3 : no));
    due("load", x.load(0, false), 2);
    due("PLACE 0 is as it was", x.of(1), 1);
    ObjectLoads y = full(CITY);
    dueBeyond("the other one of 40", 39, UNKNOWN, no -> y.place(39, 5, no == NONE ? -3 : no));
  }

  private static void placeOutside() {
    says(6, "OUTSIDE");
    ObjectLoads x = of(CITY, POINT);
    for (int i = 0; i <= 5; i++) {
      x.place(0, i, 1);
    }
    dueBeyond("to a THING", 5, OUTSIDE, no -> x.place(0, no, 0));
    dueBeyond("to none", 5, OUTSIDE, no -> x.place(0, no, NONE));
    due("load", x.load(0, false), 2);
    for (int k = 0; k <= 5; k++) {
      due("PLACE " + k + " is as it was", x.arc(0, k, 0), 1);
    }
  }

  private static void holdWhetherItWas() {
    says(7, "HELD, or not: 1 if it was, else 0");
    ObjectLoads x = full(EMPTY);
    for (int t : new int[] {0, 39}) {
      due("to false, not HELD", x.hold(t, false), 0);
      due("to true, not HELD", x.hold(t, true), 0);
      due("its KEY", x.tells(t, 0), t);
      due("to true, HELD", x.hold(t, true), 1);
      due("its KEY", x.tells(t, 0), t);
      due("to false, HELD", x.hold(t, false), 1);
      due("its KEY", x.tells(t, 0), NULL);
      due("to false, not HELD any more", x.hold(t, false), 0);
    }
    x.hold(38, true);
    due("each for itself", x.hold(39, false), 0);
    due("each for itself", x.hold(37, false), 0);
    for (int sort = POINT; sort <= EMPTY; sort++) {
      ObjectLoads y = of(sort);
      due("sort " + sort, y.hold(0, true), 0);
      due("sort " + sort, y.hold(0, false), 1);
      due("sort " + sort, y.hold(0, true), 0);
    }
  }

  private static void holdUnknown() {
    says(7, "UNKNOWN");
    ObjectLoads x = of(EMPTY, EMPTY);
    x.hold(1, true);
    dueBeyond("to true", 1, UNKNOWN, no -> x.hold(no, true));
    dueBeyond("to false", 1, UNKNOWN, no -> x.hold(no, false));
    due("0 is as it was", x.hold(0, false), 0);
    due("1 is as it was", x.hold(1, false), 1);
    ObjectLoads y = full(EMPTY);
    dueBeyond("of 40", 39, UNKNOWN, no -> y.hold(no, true));
  }

  /** A CITY 0 whose PLACES hold 1 to 6, THINGS that are linked to nothing; THING 7 is of a sort, as empty as it comes. */
  private static ObjectLoads rows(int sort) {
    ObjectLoads x = of(CITY, POINT, BROKEN, EMPTY, POINT, BROKEN, EMPTY, sort);
    for (int i = 0; i <= 5; i++) {
      x.place(0, i, i + 1);
    }
    return x;
  }

  /** The PLACES of a THING as digits: the THING, 9 for none; an 8 for a BRIDGE without ends. */
  private static int row(ObjectLoads x, int thing) {
    int probe = x.thing(SHORT, 0, 0);
    int told = 0;
    for (int i = 0; i <= 5; i++) {
      x.copy(thing, i, probe, 0, 1);
      int nodes = x.load(probe, false);
      told = 10 * told + (nodes == NULL ? 8 : x.arcs(0) == 0 ? 9 : x.of(x.arc(0, 0, 0)));
    }
    return told;
  }

  private static void copyStretches() {
    says(8, "n of them from a on to those from b on: 1");
    for (int a = 0; a <= 6; a++) {
      for (int b = 0; b <= 6; b++) {
        for (int n = 0; n <= 6; n++) {
          copyOne(a, b, n);
        }
      }
    }
  }

  private static void copyOne(int a, int b, int n) {
    ObjectLoads x = rows(CITY);
    boolean fits = a + n <= 6 && b + n <= 6;
    due("copy from " + a + " to " + b + ", " + n, x.copy(0, a, 7, b, n), fits ? 1 : INDEX);
    int want = 0;
    for (int i = 0; i <= 5; i++) {
      want = 10 * want + (fits && i >= b && i < b + n ? a + (i - b) + 1 : 9);
    }
    due("copied from " + a + " to " + b + ", " + n, row(x, 7), want);
    due("the one that it was copied from", row(x, 0), 123456);
  }

  private static void copyWithinOne() {
    says(8, "as the machine copies rows (within one, as through a row between)");
    int[] row = {1, 2, 3, 4, 5, 6};
    for (int a = 0; a <= 5; a++) {
      for (int b = 0; b <= 5; b++) {
        int n = 6 - Math.max(a, b);
        ObjectLoads x = rows(CITY);
        due("copy", x.copy(0, a, 0, b, n), 1);
        int[] copied = row.clone();
        System.arraycopy(row, a, copied, b, n);
        int want = 0;
        for (int digit : copied) {
          want = 10 * want + digit;
        }
        due("from " + a + " to " + b + ", " + n, row(x, 0), want);
      }
    }
  }

  private static void copyHoles() {
    says(8, "PLACES that hold none are copied as well");
    ObjectLoads x = rows(CITY);
    due("copy", x.copy(7, 0, 0, 1, 4), 1);
    due("copied", row(x, 0), 199996);
    ObjectLoads y = rows(MASKED);
    y.copy(0, 0, 7, 0, 6);
    y.place(0, 0, NONE);
    y.place(0, 5, NONE);
    due("to a MASKED", y.copy(0, 0, 7, 0, 6), 1);
    due("copied", row(y, 7), 923459);
  }

  private static void copyAnySorts() {
    says(8, "PLACES of a THING are copied to another one's, of whatever sorts");
    for (int from = POINT; from <= EMPTY; from++) {
      for (int to = POINT; to <= EMPTY; to++) {
        ObjectLoads x = of(from, to, POINT);
        x.place(0, 5, 2);
        due("sort " + from + " to " + to, x.copy(0, 5, 1, 0, 1), 1);
        due("copied", row(x, 1), 299999);
      }
    }
    for (int to = POINT; to <= EMPTY; to++) {
      ObjectLoads x = of(CITY, to, BRIDGE);
      x.place(0, 0, 2);
      due("a BRIDGE to sort " + to, x.copy(0, 0, 1, 5, 1), to == MASKED ? STORE : 1);
      due("copied", row(x, 1), to == MASKED ? 999999 : 999998);
    }
  }

  private static void copyIndex() {
    says(8, "-1000010 less INDEX");
    ObjectLoads x = rows(CITY);
    dueBeyond("a", 6, INDEX, no -> x.copy(0, no, 7, 0, 0));
    dueBeyond("b", 6, INDEX, no -> x.copy(0, 0, 7, no, 0));
    dueBeyond("n", 6, INDEX, no -> x.copy(0, 0, 7, 0, no));
    dueBeyond("a of one", 5, INDEX, no -> x.copy(0, no, 7, 0, 1));
    dueBeyond("b of one", 5, INDEX, no -> x.copy(0, 0, 7, no, 1));
    dueBeyond("all", 6, INDEX, no -> x.copy(0, no, 7, no, no));
    for (int big : new int[] {MAX, MAX - 1, MAX - 5, MAX - 6}) {
      for (int small = 0; small <= 7; small++) {
        due("a and n that wrap", x.copy(0, small, 7, 0, big), INDEX);
        due("n and a that wrap", x.copy(0, big, 7, 0, small), INDEX);
        due("b and n that wrap", x.copy(0, 0, 7, small, big), INDEX);
        due("n and b that wrap", x.copy(0, 0, 7, big, small), INDEX);
      }
    }
    due("a below 0, though a and n fit", x.copy(0, -1, 7, 0, 2), INDEX);
    due("b below 0, though b and n fit", x.copy(0, 0, 7, -1, 2), INDEX);
    due("n below 0, though a and n fit", x.copy(0, 3, 7, 3, -2), INDEX);
    due("MIN and MIN, which wrap to 0", x.copy(0, MIN, 7, 0, MIN), INDEX);
    due("within one", x.copy(0, 0, 0, 1, 6), INDEX);
    due("none of them, behind the last", x.copy(0, 6, 7, 6, 0), 1);
    due("nothing was copied", row(x, 7), 999999);
    due("nothing was copied", row(x, 0), 123456);
  }

  private static void copyStore() {
    says(8, "STORE: the other one is a MASKED, and one of them a BRIDGE (those ahead of it are copied)");
    for (int n = 1; n <= 6; n++) {
      for (int bridge = 0; bridge <= 5; bridge++) {
        ObjectLoads x = rows(MASKED);
        int b = x.thing(BRIDGE, 0, 0);
        x.place(0, bridge, b);
        due("copy of " + n + ", a BRIDGE at " + bridge, x.copy(0, 0, 7, 6 - n, n), bridge < n ? STORE : 1);
        int want = 0;
        for (int i = 0; i <= 5; i++) {
          int from = i - (6 - n);
          want = 10 * want + (from >= 0 && from < Math.min(n, bridge) ? from + 1 : 9);
        }
        due("those ahead of it", row(x, 7), bridge < n ? want : plainCopy(n));
        due("no BRIDGE among them", x.tells(7, 2), 6);
      }
    }
    ObjectLoads x = rows(MASKED);
    int b = x.thing(BRIDGE, 0, 0);
    x.place(0, 1, b);
    x.place(0, 3, b);
    x.copy(0, 4, 7, 4, 2);
    due("two BRIDGES", x.copy(0, 0, 7, 0, 6), STORE);
    due("those ahead of the first one", row(x, 7), 199956);
    due("no BRIDGE among them", x.copy(0, 4, 7, 2, 2), 1);
    due("copied", row(x, 7), 195656);
    due("a BRIDGE ahead of a", x.copy(0, 2, 7, 0, 1), 1);
    due("none of them", x.copy(0, 1, 7, 0, 0), 1);
    due("copied", row(x, 7), 395656);
    due("a BRIDGE at once", x.copy(0, 3, 7, 0, 3), STORE);
    due("none is ahead of it", row(x, 7), 395656);
  }

  /** The PLACES 6 - n to 5 that hold 1 to n. */
  private static int plainCopy(int n) {
    int told = 0;
    for (int i = 0; i <= 5; i++) {
      told = 10 * told + (i < 6 - n ? 9 : i - (6 - n) + 1);
    }
    return told;
  }

  private static void copyIndexAheadOfStore() {
    says(8, "INDEX is told ahead of STORE, nothing is copied then");
    ObjectLoads x = rows(MASKED);
    x.place(0, 1, x.thing(BRIDGE, 0, 0));
    due("a BRIDGE, and too many", x.copy(0, 0, 7, 0, 7), INDEX);
    due("a BRIDGE, and too far", x.copy(0, 0, 7, 5, 2), INDEX);
    due("nothing was copied", row(x, 7), 999999);
  }

  private static void copyFromMasked() {
    says(8, "STORE is of the other one's sort alone");
    ObjectLoads x = of(MASKED, CITY, BRIDGE, MASKED, POINT);
    due("a BRIDGE may stand in a MASKED by place", x.place(0, 2, 2), 1);
    due("from a MASKED to a CITY", x.copy(0, 0, 1, 0, 6), 1);
    due("copied", row(x, 1), 998999);
    due("from a MASKED to a MASKED", x.copy(0, 0, 3, 0, 6), STORE);
    x.place(0, 1, 4);
    due("within one MASKED", x.copy(0, 1, 0, 3, 2), STORE);
    due("the one ahead of it", row(x, 0), 948499);
  }

  private static void copyUnknown() {
    says(8, "UNKNOWN");
    ObjectLoads x = rows(CITY);
    dueBeyond("the THING", 7, UNKNOWN, no -> x.copy(no, 0, 7, 0, 6));
    dueBeyond("the other one", 7, UNKNOWN, no -> x.copy(0, 0, no, 0, 6));
    dueBeyond("both", 7, UNKNOWN, no -> x.copy(no, 0, no, 0, 0));
    dueBeyond("UNKNOWN is told ahead of INDEX", 7, UNKNOWN, no -> x.copy(no, -1, 7, 7, -1));
    dueBeyond("the other one is, too", 7, UNKNOWN, no -> x.copy(0, 7, no, -1, 9));
    due("nothing was copied", row(x, 7), 999999);
    ObjectLoads y = full(CITY);
    dueBeyond("of 40", 39, UNKNOWN, no -> y.copy(39, 0, no, 0, 1));
    due("the 40th", y.copy(0, 0, 39, 0, 1), 1);
  }

  private static void loadHowMany() {
    says(9, "LOADED: how many NODES");
    ObjectLoads row = fullRow();
    for (int root = 0; root < 40; root++) {
      due("from " + root, row.load(root, root % 2 == 0), 40 - root);
    }
    row.next(39, 0);
    for (int root = 0; root < 40; root++) {
      due("round, from " + root, row.load(root, root % 2 == 0), 40);
    }
    ObjectLoads x = full(CITY);
    due("one", x.load(39, true), 1);
    for (int i = 0; i < 40; i++) {
      for (int p = 0; p <= 5; p++) {
        x.place(i, p, (i + p + 1) % 40);
      }
    }
    due("40 with all their ARCS", x.load(39, true), 40);
    due("ARCS", x.count(2), 240);
    due("the last ARC of the last NODE", x.arc(39, 5, 0), x.node((x.of(39) + 6) % 40));
    due("HOLES", x.holes(), 0);
  }

  private static void loadEachCause() {
    says(9, "-1000010 less the CAUSE, or less 6");
    ObjectLoads x = of(EMPTY, SHORT, POINT, BROKEN, MASKED, BRIDGE, CITY, CITY, POINT, POINT);
    due("1, a KEY", x.load(0, true), -1000011);
    x.value(1, 6);
    due("2", x.load(1, false), -1000012);
    x.next(2, 5);
    due("3, a NEXT", x.load(2, false), -1000013);
    x.place(4, 5, 5);
    due("3, a MASKED", x.load(4, false), -1000013);
    x.value(3, 0);
    due("4", x.load(3, false), -1000014);
    x.place(6, 0, 5);
    due("1, a BRIDGE", x.load(6, false), -1000011);
    x.place(5, 0, 5);
    due("3, a BRIDGE", x.load(6, false), -1000013);
    x.next(8, 9);
    x.key(9, 108);
    due("6", x.load(8, true), -1000016);
    due("none", x.load(8, false), 2);
    due("of each one a load() that ended by it", x.count(3), 8);
  }

  private static void loadUnknown() {
    says(9, "UNKNOWN");
    ObjectLoads x = of(CITY, BRIDGE);
    x.load(0, false);
    dueBeyond("by IDENTITY", 1, UNKNOWN, no -> x.load(no, false));
    dueBeyond("by KEYS", 1, UNKNOWN, no -> x.load(no, true));
    due("what is LOADED", x.count(1), 1);
    due("asked", x.asked(0), 2);
    ObjectLoads y = full(CITY);
    dueBeyond("of 40", 39, UNKNOWN, no -> y.load(no, true));
  }

  private static void loadState() {
    says(9, "STATE: a BRIDGE");
    ObjectLoads x = of(CITY, BRIDGE, BROKEN);
    x.load(0, false);
    x.place(1, 0, 0);
    x.place(1, 1, 0);
    due("by IDENTITY", x.load(1, false), STATE);
    due("by KEYS", x.load(1, true), STATE);
    due("what is LOADED", x.of(0), 0);
    due("it was not asked", x.asked(1), 0);
    due("it is no CAUSE", x.count(3), 0);
    due("refused", x.refused(2), NONE);
  }

  private static void refusedTells() {
    says(10, "Of the latest load() that ended by a CAUSE: the THING (0), the other one (1; NONE), the CAUSE (2)");
    ObjectLoads x = full(POINT);
    for (int i = 1; i < 40; i++) {
      x.next(i - 1, i);
    }
    x.key(39, 0);
    due("load", x.load(0, true), DOUBLE);
    due("the THING, the 40th", x.refused(0), 39);
    due("the other one, the first", x.refused(1), 0);
    due("the CAUSE", x.refused(2), 6);
    ObjectLoads y = of(POINT, BRIDGE, BROKEN);
    y.next(0, 1);
    y.load(0, true);
    due("the THING", y.refused(0), 0);
    due("no other one", y.refused(1), NONE);
    due("the CAUSE", y.refused(2), 3);
    y.value(2, 0);
    y.load(2, true);
    due("the latest THING", y.refused(0), 2);
    due("the latest CAUSE", y.refused(2), 4);
  }

  private static void refusedNone() {
    says(10, "NONE: it did not, or there was none");
    ObjectLoads x = of(BROKEN, POINT, BRIDGE);
    for (int what = 0; what <= 2; what++) {
      due("there was none, " + what, x.refused(what), NONE);
    }
    x.load(1, false);
    for (int what = 0; what <= 2; what++) {
      due("it ended well, " + what, x.refused(what), NONE);
    }
    x.value(0, 0);
    x.load(0, false);
    due("it did", x.refused(2), 4);
    due("STATE", x.load(2, false), STATE);
    due("it is no load() that changes this", x.refused(2), 4);
    due("UNKNOWN", x.load(3, false), UNKNOWN);
    due("nor is this", x.refused(0), 0);
    x.load(1, true);
    for (int what = 0; what <= 2; what++) {
      due("the latest ended well, " + what, x.refused(what), NONE);
    }
    due("the one ahead of it counts still", x.count(3), 1);
  }

  private static void refusedOutside() {
    says(10, "OUTSIDE (ahead)");
    ObjectLoads x = of(BROKEN, POINT);
    dueBeyond("there was none", 2, OUTSIDE, x::refused);
    x.load(1, false);
    dueBeyond("it did not", 2, OUTSIDE, x::refused);
    x.value(0, 0);
    x.load(0, false);
    dueBeyond("it did", 2, OUTSIDE, x::refused);
  }

  private static void nodeOfThing() {
    says(11, "The NODE that a THING is; NONE");
    ObjectLoads x = fullRow();
    for (int t = 0; t < 40; t++) {
      due("THING " + t, x.node(t), t);
    }
    x.load(39, false);
    due("the 40th", x.node(39), 0);
    for (int t = 0; t < 39; t++) {
      due("not LOADED any more", x.node(t), NONE);
    }
    ObjectLoads y = of(CITY, BRIDGE, POINT, POINT);
    due("nothing LOADED", y.node(0), NONE);
    y.place(0, 0, 1);
    y.place(1, 0, 2);
    y.load(0, false);
    due("a BRIDGE that was crossed", y.node(1), NONE);
    due("a NODE behind it", y.node(2), 1);
    due("a NODE that was not found", y.node(3), NONE);
    y.thing(POINT, 0, 0);
    due("a THING that came behind the load()", y.node(4), NONE);
  }

  private static void nodeUnknown() {
    says(11, "UNKNOWN");
    ObjectLoads x = of(CITY, POINT);
    dueBeyond("nothing LOADED", 1, UNKNOWN, x::node);
    x.load(0, false);
    dueBeyond("one LOADED", 1, UNKNOWN, x::node);
    ObjectLoads y = fullRow();
    dueBeyond("40 LOADED", 39, UNKNOWN, y::node);
  }

  private static void ofNode() {
    says(12, "The THING of a NODE");
    ObjectLoads x = fullRow();
    x.next(39, 0);
    x.load(39, false);
    due("the first NODE", x.of(0), 39);
    due("the one behind it", x.of(1), 0);
    due("the last NODE", x.of(39), 38);
  }

  private static void ofUnknown() {
    says(12, "UNKNOWN");
    ObjectLoads x = of(CITY, POINT, POINT);
    dueBeyond("nothing LOADED", -1, UNKNOWN, x::of);
    x.place(0, 0, 2);
    x.load(0, false);
    dueBeyond("2 LOADED of 3 THINGS", 1, UNKNOWN, x::of);
    x.load(1, false);
    dueBeyond("1 LOADED behind 2", 0, UNKNOWN, x::of);
    ObjectLoads y = fullRow();
    dueBeyond("40 LOADED", 39, UNKNOWN, y::of);
  }

  private static void columnOfNode() {
    says(13, "The VALUE that a NODE had told. (It may be any number.)");
    for (int edge : EDGES) {
      ObjectLoads x = of(POINT, CITY, MASKED, EMPTY);
      for (int t = 0; t <= 3; t++) {
        x.value(t, edge);
      }
      x.next(0, 1);
      x.place(1, 0, 2);
      x.place(2, 0, 3);
      x.load(0, false);
      for (int t = 0; t <= 3; t++) {
        x.value(t, 4);
      }
      due("a POINT", x.column(0), edge);
      due("a CITY", x.column(1), edge + edge);
      due("a MASKED", x.column(2), edge + edge + 1);
      due("an EMPTY", x.column(3), edge);
      due("what it tells now is another thing", x.tells(2, 1), 9);
    }
    ObjectLoads row = fullRow();
    due("the last one of 40", row.column(39), 39);
  }

  private static void columnUnknown() {
    says(13, "UNKNOWN");
    ObjectLoads x = of(CITY, POINT, POINT);
    dueBeyond("nothing LOADED", -1, UNKNOWN, x::column);
    x.place(0, 0, 2);
    x.load(0, false);
    dueBeyond("2 LOADED of 3 THINGS", 1, UNKNOWN, x::column);
    x.load(1, false);
    dueBeyond("1 LOADED behind 2", 0, UNKNOWN, x::column);
    ObjectLoads y = fullRow();
    dueBeyond("40 LOADED", 39, UNKNOWN, y::column);
  }

  private static void arcsOfNode() {
    says(14, "How many ARCS a NODE has");
    ObjectLoads x = of(CITY, POINT, SHORT, MASKED);
    for (int i = 0; i <= 5; i++) {
      x.load(0, false);
      due("a CITY with " + i, x.arcs(0), i);
      x.place(0, i, i < 3 ? i + 1 : 0);
    }
    due("load", x.load(0, false), 4);
    due("a CITY with all 6", x.arcs(0), 6);
    due("a POINT with none", x.arcs(1), 0);
    due("a SHORT with a HOLE", x.arcs(2), 0);
    due("a MASKED with HOLES", x.arcs(3), 0);
    x.next(1, 1);
    x.place(2, 1, 2);
    for (int i = 0; i <= 5; i++) {
      x.place(3, i, 3);
    }
    due("as it was LOADED", x.arcs(3), 0);
    x.load(0, false);
    due("a POINT with itself", x.arcs(1), 1);
    due("a SHORT with itself", x.arcs(2), 1);
    due("a MASKED with itself", x.arcs(3), 6);
    ObjectLoads row = fullRow();
    due("the last but one of 40", row.arcs(38), 1);
    due("the last one of 40", row.arcs(39), 0);
  }

  private static void arcsUnknown() {
    says(14, "UNKNOWN");
    ObjectLoads x = of(CITY, POINT, POINT);
    dueBeyond("nothing LOADED", -1, UNKNOWN, x::arcs);
    x.place(0, 0, 2);
    x.load(0, false);
    dueBeyond("2 LOADED of 3 THINGS", 1, UNKNOWN, x::arcs);
    x.load(1, false);
    dueBeyond("1 LOADED behind 2", 0, UNKNOWN, x::arcs);
    ObjectLoads y = fullRow();
    dueBeyond("40 LOADED", 39, UNKNOWN, y::arcs);
  }

  private static ObjectLoads sixArcs() {
    ObjectLoads x = of(CITY, BRIDGE, POINT, CITY);
    int[] row = {2, 1, 0, 3, 1, 2};
    for (int i = 0; i <= 5; i++) {
      x.place(0, i, row[i]);
    }
    x.place(1, 0, 0);
    x.place(1, 1, 3);
    x.value(1, -7);
    due("load", x.load(0, false), 3);
    return x;
  }

  private static void arcTells() {
    says(15, "Of ARC k: the NODE that it leads to (0), WEIGHT (1; it may be any number), whether through a BRIDGE (2)");
    ObjectLoads x = sixArcs();
    int[][] arcs = {{1, 1, 0}, {2, -7, 1}, {0, 1, 0}, {2, 1, 0}, {2, -7, 1}, {1, 1, 0}};
    for (int k = 0; k <= 5; k++) {
      for (int what = 0; what <= 2; what++) {
        due("ARC " + k + ", " + what, x.arc(0, k, what), arcs[k][what]);
      }
    }
    for (int edge : EDGES) {
      x.value(1, edge);
      x.load(0, false);
      x.value(1, 4);
      due("WEIGHT", x.arc(0, 1, 1), edge);
    }
    ObjectLoads row = fullRow();
    due("the last ARC of 40 in a row", row.arc(38, 0, 0), 39);
  }

  private static void arcUnknown() {
    says(15, "UNKNOWN");
    ObjectLoads x = sixArcs();
    dueBeyond("k of 6", 5, UNKNOWN, no -> x.arc(0, no, 0));
    dueBeyond("k of none", -1, UNKNOWN, no -> x.arc(1, no, 0));
    dueBeyond("k of none, the last NODE", -1, UNKNOWN, no -> x.arc(2, no, 2));
    dueBeyond("NODE", 2, UNKNOWN, no -> x.arc(no, 0, 0));
    dueBeyond("k, UNKNOWN is told ahead of OUTSIDE", 5, UNKNOWN, no -> x.arc(0, no, 3));
    dueBeyond("NODE, UNKNOWN is told ahead of OUTSIDE", 2, UNKNOWN, no -> x.arc(no, 0, -1));
    dueBeyond("all", 5, UNKNOWN, no -> x.arc(no, no, no));
    ObjectLoads y = of(CITY);
    dueBeyond("nothing LOADED", -1, UNKNOWN, no -> y.arc(no, 0, 0));
    ObjectLoads z = fullRow();
    dueBeyond("40 LOADED", 39, UNKNOWN, no -> z.arc(no, 0, 0));
    due("the last one has none", z.arc(39, 0, 0), UNKNOWN);
    due("the one ahead of it has no second", z.arc(38, 1, 0), UNKNOWN);
  }

  private static void arcOutside() {
    says(15, "OUTSIDE");
    ObjectLoads x = sixArcs();
    dueBeyond("the first ARC", 2, OUTSIDE, no -> x.arc(0, 0, no));
    dueBeyond("the last ARC", 2, OUTSIDE, no -> x.arc(0, 5, no));
  }

  private static void wayShortest() {
    says(16, "How many ARCS the shortest way from a NODE to one has");
    ObjectLoads x = fullRow();
    due("the longest one", x.way(0, 39), 39);
    due("to the one behind it", x.way(38, 39), 1);
    for (int n = 0; n < 40; n++) {
      due("to itself", x.way(n, n), 0);
    }
    x.next(39, 0);
    x.load(0, false);
    due("round", x.way(39, 38), 39);
    due("back", x.way(39, 0), 1);
    due("to itself, though it goes round", x.way(5, 5), 0);
    ObjectLoads y = of(CITY, POINT, POINT, BRIDGE);
    y.place(0, 0, 1);
    y.next(1, 2);
    y.load(0, false);
    due("two ARCS", y.way(0, y.node(2)), 2);
    y.place(0, 5, 3);
    y.place(3, 0, 2);
    y.value(3, MAX);
    y.load(0, false);
    due("one through a BRIDGE, whatever its WEIGHT", y.way(0, y.node(2)), 1);
    y.value(3, -5);
    y.load(0, false);
    due("one through a BRIDGE, below 0", y.way(0, y.node(2)), 1);
    y.place(0, 4, 0);
    y.load(0, false);
    due("to itself, by no ARC", y.way(0, 0), 0);
  }

  private static void wayNone() {
    says(16, "NONE: there is none");
    ObjectLoads x = fullRow();
    for (int n = 1; n < 40; n++) {
      due("back from " + n, x.way(n, n - 1), NONE);
      due("back from the last to " + (n - 1), x.way(39, n - 1), NONE);
    }
    for (int n = 0; n < 39; n++) {
      due("on", x.way(0, 39), 39);
      due("nothing of that way is left: back to " + n, x.way(39, n), NONE);
    }
  }

  private static void wayUnknown() {
    says(16, "UNKNOWN");
    ObjectLoads x = of(CITY, POINT, POINT);
    dueBeyond("nothing LOADED", -1, UNKNOWN, no -> x.way(no, no));
    x.place(0, 0, 1);
    x.load(0, false);
    dueBeyond("from", 1, UNKNOWN, no -> x.way(no, 0));
    dueBeyond("to", 1, UNKNOWN, no -> x.way(1, no));
    dueBeyond("both", 1, UNKNOWN, no -> x.way(no, no));
    ObjectLoads y = fullRow();
    dueBeyond("from, of 40", 39, UNKNOWN, no -> y.way(no, 39));
    dueBeyond("to, of 40", 39, UNKNOWN, no -> y.way(39, no));
  }

  private static void holesLoaded() {
    says(17, "HOLES that were met by what is LOADED");
    ObjectLoads x = full(CITY);
    due("nothing LOADED", x.holes(), 0);
    for (int i = 1; i < 40; i++) {
      x.place(i - 1, 5, i);
    }
    due("load", x.load(0, false), 40);
    due("of 40 CITIES", x.holes(), 40 * 6 - 39);
    x.load(39, false);
    due("of the last one", x.holes(), 6);
    x.place(39, 0, 0);
    due("as it was LOADED", x.holes(), 6);
    x.key(1, 0);
    due("a load() that ends by a CAUSE", x.load(0, true), DOUBLE);
    due("as it was", x.holes(), 6);
    ObjectLoads y = of(CITY, BROKEN);
    y.value(1, 0);
    y.place(0, 0, 1);
    due("a load() that ends by a CAUSE", y.load(0, false), ARITHMETIC);
    due("nothing LOADED, though HOLES were met", y.holes(), 0);
  }

  private static void askedHowOften() {
    says(18, "How often a THING was asked");
    ObjectLoads x = fullRow();
    for (int t = 0; t < 40; t++) {
      due("once by KEYS, " + t, x.asked(t), 3);
    }
    x.load(39, false);
    due("the 40th", x.asked(39), 5);
    due("the one ahead of it", x.asked(38), 3);
    due("asking so counts not", x.asked(38), 3);
    for (int what = 0; what <= 2; what++) {
      x.tells(38, what);
    }
    x.value(38, 1);
    x.key(38, 2);
    x.hold(38, true);
    x.node(38);
    x.is(38, 0);
    x.copy(38, 0, 38, 0, 6);
    due("nothing but load() counts", x.asked(38), 3);
  }

  private static void askedUnknown() {
    says(18, "UNKNOWN");
    ObjectLoads x = of(POINT, POINT);
    dueBeyond("of 2", 1, UNKNOWN, x::asked);
    ObjectLoads y = full(BRIDGE);
    dueBeyond("of 40", 39, UNKNOWN, y::asked);
    due("the 40th", y.asked(39), 0);
  }

  private static void tellsNow() {
    says(19, "What a THING tells now: KEY (0), VALUE (1). (KEY, VALUE may be any number.)");
    for (int sort : new int[] {POINT, BRIDGE, SHORT, EMPTY}) {
      for (int edge : EDGES) {
        ObjectLoads x = of(sort);
        x.hold(0, true);
        x.load(0, true);
        x.key(0, edge);
        x.value(0, ~edge);
        due("sort " + sort + ", KEY", x.tells(0, 0), edge);
        due("sort " + sort + ", VALUE", x.tells(0, 1), ~edge);
      }
    }
    ObjectLoads x = of(CITY, MASKED);
    x.value(0, -500005);
    due("a CITY's VALUE that is a number like a code", x.tells(0, 1), -1000010);
    x.value(1, -500006);
    due("a MASKED's VALUE that is a number like a CAUSE", x.tells(1, 1), -1000011);
    ObjectLoads y = full(POINT);
    due("the 40th, KEY", y.tells(39, 0), 39);
    due("the 40th, VALUE", y.tells(39, 1), 39);
  }

  private static void tellsLinks() {
    says(19, "how many LINKS it tells, HOLES, too (2; of a BRIDGE 2)");
    int[] empty = {0, 6, 2, 0, 6, 1, 0};
    int[] linked = {1, 6, 2, 1, 6, 1, 1};
    for (int sort = POINT; sort <= EMPTY; sort++) {
      ObjectLoads x = of(sort, CITY);
      due("sort " + sort + " with none", x.tells(0, 2), empty[sort]);
      x.next(0, 1);
      for (int i = 0; i <= 5; i++) {
        x.place(0, i, 1);
      }
      due("sort " + sort + " with all", x.tells(0, 2), linked[sort]);
    }
    ObjectLoads x = of(BRIDGE, BRIDGE);
    x.next(0, 1);
    x.place(0, 0, 1);
    x.place(0, 1, 0);
    due("a BRIDGE with BRIDGES", x.tells(0, 2), 2);
  }

  private static void tellsCauses() {
    says(19, "-1000010 less the CAUSE");
    ObjectLoads x = of(EMPTY, BROKEN, SHORT, MASKED, POINT, BRIDGE);
    due("1, KEY", x.tells(0, 0), NULL);
    due("its VALUE", x.tells(0, 1), 1);
    due("its LINKS", x.tells(0, 2), 0);
    x.value(1, 0);
    due("4, VALUE", x.tells(1, 1), ARITHMETIC);
    due("its KEY", x.tells(1, 0), 101);
    due("its LINKS", x.tells(1, 2), 0);
    for (int v : new int[] {MIN, -1, 6, MAX}) {
      x.value(2, v);
      due("2, LINKS", x.tells(2, 2), INDEX);
      due("its KEY", x.tells(2, 0), 102);
      due("its VALUE", x.tells(2, 1), v);
    }
    for (int i = 0; i <= 5; i++) {
      x.place(3, i, 5);
      due("3, LINKS of a MASKED", x.tells(3, 2), CAST);
      x.place(3, i, NONE);
    }
    for (int t : new int[] {0, 1, 4}) {
      x.next(t, 5);
      due("3, LINKS by NEXT", x.tells(t, 2), CAST);
    }
    due("no load() ended by it", x.count(3), 0);
    due("nothing is refused by it", x.refused(2), NONE);
  }

  private static void tellsDoesNotCount() {
    says(19, "which does not count");
    for (int sort = POINT; sort <= EMPTY; sort++) {
      ObjectLoads x = of(sort);
      for (int what = -1; what <= 3; what++) {
        x.tells(0, what);
      }
      due("sort " + sort, x.asked(0), 0);
    }
  }

  private static void tellsUnknown() {
    says(19, "UNKNOWN");
    ObjectLoads x = of(POINT, POINT);
    for (int what = 0; what <= 2; what++) {
      int asked = what;
      dueBeyond("what " + what, 1, UNKNOWN, no -> x.tells(no, asked));
    }
    dueBeyond("UNKNOWN is told ahead of OUTSIDE", 1, UNKNOWN, no -> x.tells(no, 3));
    dueBeyond("both", 3, UNKNOWN, no -> x.tells(no, no));
    ObjectLoads y = full(POINT);
    dueBeyond("of 40", 39, UNKNOWN, no -> y.tells(no, 0));
  }

  private static void tellsOutside() {
    says(19, "OUTSIDE");
    for (int sort = POINT; sort <= EMPTY; sort++) {
      ObjectLoads x = of(sort);
      x.value(0, 0);
      dueBeyond("sort " + sort, 2, OUTSIDE, no -> x.tells(0, no));
    }
  }

  private static void isOfFamily() {
    says(20, "Whether a THING is of a family: 0 NODES, 1 CITIES (CITY, MASKED, SHORT), 2 BRIDGES: 1, 0");
    int[][] families = {{1, 0, 0}, {1, 1, 0}, {0, 0, 1}, {1, 0, 0}, {1, 1, 0}, {1, 1, 0}, {1, 0, 0}};
    for (int sort = POINT; sort <= EMPTY; sort++) {
      ObjectLoads x = full(sort);
      for (int family = 0; family <= 2; family++) {
        due("sort " + sort + ", family " + family, x.is(0, family), families[sort][family]);
        due("the 40th, sort " + sort + ", family " + family, x.is(39, family), families[sort][family]);
      }
    }
  }

  private static void isUnknown() {
    says(20, "UNKNOWN");
    ObjectLoads x = of(POINT, BRIDGE);
    for (int family = 0; family <= 2; family++) {
      int asked = family;
      dueBeyond("family " + family, 1, UNKNOWN, no -> x.is(no, asked));
    }
    dueBeyond("UNKNOWN is told ahead of OUTSIDE", 1, UNKNOWN, no -> x.is(no, 3));
    ObjectLoads y = full(CITY);
    dueBeyond("of 40", 39, UNKNOWN, no -> y.is(no, 1));
  }

  private static void isOutside() {
    says(20, "OUTSIDE");
    for (int sort = POINT; sort <= EMPTY; sort++) {
      ObjectLoads x = of(sort);
      dueBeyond("sort " + sort, 2, OUTSIDE, no -> x.is(0, no));
    }
  }

  private static void countThings() {
    says(21, "THINGS (what = 0)");
    ObjectLoads x = new ObjectLoads();
    for (int i = 0; i < 40; i++) {
      due("ahead of the one that comes", x.count(0), i);
      x.thing(i % 7, i, i);
      x.thing(7, i, i);
    }
    due("all 40", x.count(0), 40);
    x.thing(POINT, 0, 0);
    due("ROOM", x.count(0), 40);
  }

  private static void countNodesAndArcs() {
    says(21, "NODES (1), ARCS (2)");
    ObjectLoads x = fullRow();
    due("NODES of 40 in a row", x.count(1), 40);
    due("ARCS of 40 in a row", x.count(2), 39);
    x.load(38, false);
    due("NODES of the last two", x.count(1), 2);
    due("ARCS of the last two", x.count(2), 1);
    x.load(39, false);
    due("NODES of the last one", x.count(1), 1);
    due("ARCS of the last one", x.count(2), 0);
    x.key(39, 0);
    due("a load() that ends by a CAUSE", x.load(0, true), DOUBLE);
    due("NODES as they were", x.count(1), 1);
    due("ARCS as they were", x.count(2), 0);
    ObjectLoads y = of(CITY, BRIDGE, POINT, POINT);
    due("NODES, nothing LOADED", y.count(1), 0);
    y.place(0, 0, 1);
    y.place(0, 1, 1);
    y.place(0, 2, 0);
    y.place(1, 0, 2);
    y.load(0, false);
    due("NODES, no BRIDGES among them", y.count(1), 2);
    due("ARCS, through BRIDGES, too", y.count(2), 3);
  }

  private static void countCauses() {
    says(21, "load()s that ended by a CAUSE (3)");
    ObjectLoads x = of(BROKEN, POINT, POINT, BRIDGE, MASKED);
    due("none", x.count(3), 0);
    x.load(0, false);
    x.load(3, false);
    x.load(5, false);
    due("none of those", x.count(3), 0);
    x.value(0, 0);
    for (int times = 1; times <= 300; times++) {
      x.load(0, times % 2 == 0);
    }
    due("300", x.count(3), 300);
    x.next(1, 2);
    x.key(2, 101);
    x.load(1, true);
    due("one by DOUBLE", x.count(3), 301);
    x.load(1, false);
    due("one that ended well", x.count(3), 301);
    x.tells(0, 1);
    x.place(0, 0, 3);
    due("a copy() by STORE", x.copy(0, 0, 4, 0, 1), STORE);
    due("is no load()", x.count(3), 301);
  }

  private static void countOutside() {
    says(21, "OUTSIDE");
    ObjectLoads x = new ObjectLoads();
    dueBeyond("no THINGS", 3, OUTSIDE, x::count);
    ObjectLoads y = fullRow();
    dueBeyond("40 LOADED", 3, OUTSIDE, y::count);
  }

  private static void clearHowMany() {
    says(22, "how many THINGS there were");
    ObjectLoads x = new ObjectLoads();
    due("none", x.clear(), 0);
    for (int i = 1; i <= 8; i++) {
      for (int t = 0; t < i; t++) {
        x.thing(CITY, t, t);
      }
      due("as many as came", x.clear(), i);
      due("none any more", x.clear(), 0);
    }
    due("40", fullRow().clear(), 40);
  }

  private static void clearAsAtTheBeginning() {
    says(22, "All is as at the beginning");
    ObjectLoads x = fullRow();
    x.key(39, 0);
    x.load(0, true);
    due("load()s that ended by a CAUSE", x.count(3), 1);
    due("clear", x.clear(), 40);
    for (int what = 0; what <= 3; what++) {
      due("count " + what, x.count(what), 0);
    }
    for (int what = 0; what <= 2; what++) {
      due("refused " + what, x.refused(what), NONE);
    }
    due("holes", x.holes(), 0);
    for (int no = -1; no <= 40; no++) {
      due("node", x.node(no), UNKNOWN);
      due("of", x.of(no), UNKNOWN);
      due("column", x.column(no), UNKNOWN);
      due("arcs", x.arcs(no), UNKNOWN);
      due("asked", x.asked(no), UNKNOWN);
    }
    due("arc", x.arc(0, 0, 0), UNKNOWN);
    due("way", x.way(0, 0), UNKNOWN);
    due("load", x.load(0, false), UNKNOWN);
    for (int t = 0; t < 40; t++) {
      due("the numbers begin again", x.thing(POINT, t, t), t);
    }
    due("the one behind the 40th", x.thing(POINT, 0, 0), ROOM);
    due("none of them is LOADED", x.node(39), NONE);
    due("none of them is linked", x.load(0, false), 1);
  }

  private static void clearThingsAnew() {
    says(22, "All is as at the beginning: THINGS that come behind it are new");
    for (int sort = POINT; sort <= EMPTY; sort++) {
      ObjectLoads x = of(sort, POINT, BRIDGE);
      x.hold(0, true);
      x.next(0, 1);
      for (int i = 0; i <= 5; i++) {
        x.place(0, i, 1);
      }
      x.load(0, true);
      due("clear", x.clear(), 3);
      due("thing", x.thing(sort, 5, 1), 0);
      due("sort " + sort + ", not asked", x.asked(0), 0);
      due("no NODE", x.node(0), NONE);
      due("no NEXT and no PLACES", row(x, 0), 999999);
      due("not HELD", x.hold(0, true), 0);
      due("LINKS", x.tells(0, 2), new int[] {0, 6, 2, 0, 6, 1, 0}[sort]);
      due("KEY", x.key(0, 0), 5);
      due("V", x.value(0, 0), 1);
    }
  }

  public static void main(String[] args) {
    newObjectHasNoThings();
    newObjectHasNothingLoaded();
    newObjectsShareNothing();
    thingItsNumber();
    thingOutside();
    thingRoom();
    valueWhatItWas();
    valueUnknown();
    keyLikewise();
    keyUnknown();
    nextBecomes();
    nextUnknown();
    placeBecomes();
    placeUnknown();
    placeOutside();
    holdWhetherItWas();
    holdUnknown();
    copyStretches();
    copyWithinOne();
    copyHoles();
    copyAnySorts();
    copyIndex();
    copyStore();
    copyIndexAheadOfStore();
    copyFromMasked();
    copyUnknown();
    loadHowMany();
    loadEachCause();
    loadUnknown();
    loadState();
    refusedTells();
    refusedNone();
    refusedOutside();
    nodeOfThing();
    nodeUnknown();
    ofNode();
    ofUnknown();
    columnOfNode();
    columnUnknown();
    arcsOfNode();
    arcsUnknown();
    arcTells();
    arcUnknown();
    arcOutside();
    wayShortest();
    wayNone();
    wayUnknown();
    holesLoaded();
    askedHowOften();
    askedUnknown();
    tellsNow();
    tellsLinks();
    tellsCauses();
    tellsDoesNotCount();
    tellsUnknown();
    tellsOutside();
    isOfFamily();
    isUnknown();
    isOutside();
    countThings();
    countNodesAndArcs();
    countCauses();
    countOutside();
    clearHowMany();
    clearAsAtTheBeginning();
    clearThingsAnew();
    System.out.println(sentences + " sentences: " + (wrong == 0 ? "all answers are as due" : wrong + " answers are not as due"));
    if (wrong != 0) {
      System.exit(1);
    }
  }
}
