/** The document's 'Terms', sentence by sentence: each one that names a boundary case has a test of its own. */
public final class TermsTest {
  private static final int UNKNOWN = -1000001, OUTSIDE = -1000002, STATE = -1000003, ROOM = -1000004, NONE = -1000009;
  private static final int NULL = -1000011, INDEX = -1000012, CAST = -1000013, ARITHMETIC = -1000014;
  private static final int STORE = -1000015, DOUBLE = -1000016;
  private static final int POINT = 0, CITY = 1, BRIDGE = 2, BROKEN = 3, MASKED = 4, SHORT = 5, EMPTY = 6;
  private static final int MIN = Integer.MIN_VALUE, MAX = Integer.MAX_VALUE;

  /** Numbers of 32 bits at their edges, the codes among them, since a KEY and a V may be any number. */
  private static final int[] EDGES = {
    MIN, MIN + 1, -(1 << 30) - 1, -(1 << 30), DOUBLE, NULL, NONE, ROOM, STATE, OUTSIDE, UNKNOWN, -1, 0, 1, 39, 40,
    (1 << 30) - 1, 1 << 30, MAX - 1, MAX
  };
  private static final int[] NODE_SORTS = {POINT, CITY, BROKEN, MASKED, SHORT, EMPTY};
  private static final int[] NEXT_SORTS = {POINT, BROKEN, EMPTY};
  private static final int[] PLAIN_VALUE_SORTS = {POINT, BRIDGE, SHORT, EMPTY};

  private static String sentence = "";
  private static int sentences = 0;
  private static int wrong = 0;

  private static void says(String words) {
    sentence = words;
    sentences++;
  }

  private static void due(String call, int got, int want) {
    if (got != want) {
      wrong++;
      System.out.println("'" + sentence + "': " + call + " answered " + got + ", due is " + want);
    }
  }

  /** Things with the keys 100, 101 .. and V 1. */
  private static ObjectLoads of(int... sorts) {
    ObjectLoads x = new ObjectLoads();
    for (int i = 0; i < sorts.length; i++) {
      x.thing(sorts[i], 100 + i, 1);
    }
    return x;
  }

  private static void dueRefused(String load, ObjectLoads x, int thing, int other, int cause) {
    due(load + ", refused(0)", x.refused(0), thing);
    due(load + ", refused(1)", x.refused(1), other);
    due(load + ", refused(2)", x.refused(2), cause);
  }

  private static void calls512() {
    says("An object is used for at most 512 calls after it has been made");
    ObjectLoads x = new ObjectLoads();
    for (int call = 1; call < 512; call++) {
      if (call % 41 == 0) {
        due("call " + call + ", clear", x.clear(), 40);
      } else {
        due("call " + call + ", thing", x.thing(call % 7, call, call), call % 41 - 1);
      }
    }
    due("call 512, count(0)", x.count(0), 511 % 41);
    ObjectLoads y = of(CITY, POINT);
    y.place(0, 5, 1);
    for (int call = 4; call < 511; call++) {
      due("call " + call + ", load", y.load(0, true), 2);
    }
    due("call 511, asked(0)", y.asked(0), 3 * 507);
    due("call 512, asked(1)", y.asked(1), 3 * 507);
    ObjectLoads z = of(BROKEN);
    z.value(0, 0);
    for (int call = 3; call < 512; call++) {
      due("call " + call + ", load", z.load(0, true), ARITHMETIC);
    }
    due("call 512, count(3)", z.count(3), 509);
  }

  private static void thingsZeroTo39() {
    says("THINGS 0 to 39, as they come");
    ObjectLoads x = new ObjectLoads();
    due("no THINGS, asked(0)", x.asked(0), UNKNOWN);
    for (int i = 0; i < 40; i++) {
      due("asked ahead of its coming", x.asked(i), UNKNOWN);
      due("the one that comes", x.thing(i % 7, i, i), i);
      due("asked behind its coming", x.asked(i), 0);
    }
    due("the 40th", x.asked(39), 0);
    due("the one behind it", x.thing(POINT, 0, 0), ROOM);
    due("asked(40)", x.asked(40), UNKNOWN);
    due("asked(-1)", x.asked(-1), UNKNOWN);
    due("asked(MIN)", x.asked(MIN), UNKNOWN);
    due("asked(MAX)", x.asked(MAX), UNKNOWN);
    due("the 40th has the KEY it came with", x.key(39, 0), 39);
    due("the 40th may be linked to", x.next(0, 39), 1);
    due("the one behind it may not", x.next(0, 40), UNKNOWN);
  }

  private static void keyAndVOf32Bits() {
    says("have a SORT, a KEY, a V (32 bits each)");
    for (int sort = POINT; sort <= EMPTY; sort++) {
      for (int edge : EDGES) {
        ObjectLoads x = new ObjectLoads();
        due("thing", x.thing(sort, edge, ~edge), 0);
        due("sort " + sort + ", KEY", x.key(0, ~edge), edge);
        due("sort " + sort + ", V", x.value(0, edge), ~edge);
        due("sort " + sort + ", KEY that it became", x.key(0, 0), ~edge);
        due("sort " + sort + ", V that it became", x.value(0, 0), edge);
      }
    }
  }

  private static void nextNoneAtFirst() {
    says("NEXT (a THING, or none: at first)");
    for (int sort : NEXT_SORTS) {
      ObjectLoads x = of(POINT, sort);
      due("sort " + sort + ", tells(1, 2)", x.tells(1, 2), 0);
      due("sort " + sort + ", load(1)", x.load(1, false), 1);
      due("sort " + sort + ", arcs(0)", x.arcs(0), 0);
    }
  }

  private static void placesNoneAtFirst() {
    says("PLACES 0 to 5 (likewise)");
    for (int sort = POINT; sort <= EMPTY; sort++) {
      ObjectLoads x = of(CITY, POINT, sort);
      for (int i = 0; i <= 5; i++) {
        x.place(0, i, 1);
      }
      due("sort " + sort + ", copy of its PLACES to a CITY", x.copy(2, 0, 0, 0, 6), 1);
      due("load of the CITY", x.load(0, false), 1);
      due("all of them hold none at first", x.holes(), 6);
    }
    for (int sort = POINT; sort <= EMPTY; sort++) {
      ObjectLoads x = of(CITY, POINT, sort);
      for (int i : new int[] {MIN, -1, 6, MAX}) {
        due("sort " + sort + ", PLACE " + i, x.place(2, i, 1), OUTSIDE);
        due("sort " + sort + ", PLACE " + i + " to none", x.place(2, i, NONE), OUTSIDE);
      }
      for (int i = 0; i <= 5; i++) {
        due("sort " + sort + ", PLACE " + i, x.place(2, i, 1), 1);
        x.copy(2, 0, 0, 0, 6);
        x.load(0, false);
        due("PLACES that hold none", x.holes(), 5 - i);
        due("PLACES that hold one", x.arcs(0), i + 1);
      }
    }
  }

  private static void notHeldAtFirst() {
    says("HELD (whether: not at first)");
    for (int sort = POINT; sort <= EMPTY; sort++) {
      due("sort " + sort + ", hold to true", of(sort).hold(0, true), 0);
      due("sort " + sort + ", hold to false", of(sort).hold(0, false), 0);
    }
    due("an EMPTY's KEY", of(EMPTY).tells(0, 0), NULL);
  }

  private static void firstCodeThatFits() {
    says("Codes, the first of these that fits: UNKNOWN, OUTSIDE, STATE, ROOM");
    ObjectLoads x = of(CITY, BRIDGE);
    x.load(0, false);
    for (int no : new int[] {MIN, -1, 2, 40, MAX}) {
      due("place, THING and i", x.place(no, 6, 0), UNKNOWN);
      due("place, i and the other THING", x.place(0, -1, no), UNKNOWN);
      due("copy, THING and a", x.copy(no, -1, 0, 0, 1), UNKNOWN);
      due("copy, the other THING and n", x.copy(0, 0, no, 0, 7), UNKNOWN);
      due("arc, NODE and what", x.arc(no, 0, 3), UNKNOWN);
      due("arc, ARC and what", x.arc(0, no, -1), UNKNOWN);
      due("tells, THING and what", x.tells(no, 3), UNKNOWN);
      due("is, THING and family", x.is(no, -1), UNKNOWN);
      due("load, UNKNOWN and no STATE", x.load(no, true), UNKNOWN);
    }
    ObjectLoads full = new ObjectLoads();
    for (int i = 0; i < 40; i++) {
      full.thing(BRIDGE, i, i);
    }
    for (int sort : new int[] {MIN, -1, 7, MAX}) {
      due("thing, sort and ROOM", full.thing(sort, 0, 0), OUTSIDE);
    }
    due("thing, ROOM alone", full.thing(EMPTY, 0, 0), ROOM);
    due("load of the 40th, a BRIDGE", full.load(39, false), STATE);
    due("load of the one behind it", full.load(40, false), UNKNOWN);
  }

  private static void unknownOnes() {
    says("UNKNOWN -1000001 (a THING, a NODE, an ARC that there is not)");
    ObjectLoads x = of(CITY, POINT, POINT);
    x.place(0, 2, 1);
    due("a NODE, nothing LOADED", x.arcs(0), UNKNOWN);
    due("an ARC, nothing LOADED", x.arc(0, 0, 0), UNKNOWN);
    due("load", x.load(0, false), 2);
    due("the last THING", x.node(2), NONE);
    due("the one behind it", x.node(3), UNKNOWN);
    due("the last NODE", x.arcs(1), 0);
    due("a THING there is, a NODE there is not", x.arcs(2), UNKNOWN);
    due("the last ARC", x.arc(0, 0, 1), 1);
    due("the one behind it, though there is a PLACE", x.arc(0, 1, 1), UNKNOWN);
    due("an ARC of a NODE that has none", x.arc(1, 0, 0), UNKNOWN);
    due("NONE is no THING", x.asked(NONE), UNKNOWN);
    due("NONE is no NODE", x.of(NONE), UNKNOWN);
    due("NONE is no ARC", x.arc(0, NONE, 0), UNKNOWN);
  }

  private static void codes() {
    says("UNKNOWN -1000001, OUTSIDE -1000002, STATE -1000003, ROOM -1000004, NONE is -1000009");
    due("UNKNOWN", ObjectLoads.UNKNOWN, UNKNOWN);
    due("OUTSIDE", ObjectLoads.OUTSIDE, OUTSIDE);
    due("STATE", ObjectLoads.STATE, STATE);
    due("ROOM", ObjectLoads.ROOM, ROOM);
    due("NONE", ObjectLoads.NONE, NONE);
  }

  private static void sorts() {
    says("SORTS: 0 POINT, 1 CITY, 2 BRIDGE, 3 BROKEN, 4 MASKED, 5 SHORT, 6 EMPTY");
    ObjectLoads x = new ObjectLoads();
    for (int sort : new int[] {MIN, -2, -1, 7, 8, MAX}) {
      due("sort " + sort, x.thing(sort, 0, 0), OUTSIDE);
    }
    for (int sort = POINT; sort <= EMPTY; sort++) {
      due("sort " + sort, x.thing(sort, 7, 3), sort);
    }
    int[][] told = {{7, 3, 0}, {7, 6, 6}, {7, 3, 2}, {7, 33, 0}, {7, 7, 6}, {7, 3, 1}, {NULL, 3, 0}};
    for (int sort = POINT; sort <= EMPTY; sort++) {
      for (int what = 0; what <= 2; what++) {
        due("sort " + sort + " tells " + what, x.tells(sort, what), told[sort][what]);
      }
    }
  }

  private static void nodesAreAllButBridges() {
    says("NODES are all but BRIDGES");
    for (int sort : NODE_SORTS) {
      ObjectLoads x = of(sort);
      due("sort " + sort + ", load", x.load(0, false), 1);
      due("sort " + sort + ", is", x.is(0, 0), 1);
      due("sort " + sort + ", node", x.node(0), 0);
    }
    ObjectLoads x = of(BRIDGE);
    due("a BRIDGE, load by IDENTITY", x.load(0, false), STATE);
    due("a BRIDGE, load by KEYS", x.load(0, true), STATE);
    due("a BRIDGE, is", x.is(0, 0), 0);
    due("a BRIDGE, node", x.node(0), NONE);
  }

  private static void causes() {
    says("CAUSES: 1 NULL, 2 INDEX, 3 CAST, 4 ARITHMETIC, 5 STORE");
    ObjectLoads x = of(EMPTY, SHORT, POINT, BROKEN, MASKED, BRIDGE, CITY);
    x.value(1, 6);
    x.next(2, 5);
    x.value(3, 0);
    due("NULL", x.load(0, true), -1000010 - 1);
    dueRefused("NULL", x, 0, NONE, 1);
    due("INDEX", x.load(1, true), -1000010 - 2);
    dueRefused("INDEX", x, 1, NONE, 2);
    due("CAST", x.load(2, true), -1000010 - 3);
    dueRefused("CAST", x, 2, NONE, 3);
    due("ARITHMETIC", x.load(3, true), -1000010 - 4);
    dueRefused("ARITHMETIC", x, 3, NONE, 4);
    x.place(6, 0, 5);
    due("STORE", x.copy(6, 0, 4, 0, 1), -1000010 - 5);
    dueRefused("STORE ends no load()", x, 3, NONE, 4);
    due("NULL, told", x.tells(0, 0), NULL);
    due("INDEX, told", x.tells(1, 2), INDEX);
    due("CAST, told", x.tells(2, 2), CAST);
    due("ARITHMETIC, told", x.tells(3, 1), ARITHMETIC);
  }

  private static void keyTold() {
    says("KEY: it; of an EMPTY that is not HELD: NULL");
    for (int sort = POINT; sort <= EMPTY; sort++) {
      for (int edge : EDGES) {
        ObjectLoads x = new ObjectLoads();
        x.thing(sort, edge, 1);
        due("sort " + sort + ", not HELD", x.tells(0, 0), sort == EMPTY ? NULL : edge);
        x.hold(0, true);
        due("sort " + sort + ", HELD", x.tells(0, 0), edge);
        x.hold(0, false);
        due("sort " + sort + ", not HELD any more", x.tells(0, 0), sort == EMPTY ? NULL : edge);
      }
    }
    ObjectLoads x = of(EMPTY, POINT);
    x.next(0, 1);
    due("by KEYS", x.load(0, true), NULL);
    dueRefused("by KEYS", x, 0, NONE, 1);
    due("its KEY alone was asked", x.asked(0), 1);
    due("by IDENTITY it is not asked its KEY", x.load(0, false), 2);
    x.hold(0, true);
    due("HELD, by KEYS", x.load(0, true), 2);
  }

  private static void valueTold() {
    says("VALUE: V");
    for (int sort : PLAIN_VALUE_SORTS) {
      ObjectLoads x = of(sort);
      for (int edge : EDGES) {
        x.value(0, edge);
        due("sort " + sort + ", V " + edge, x.tells(0, 1), edge);
      }
    }
  }

  private static void valueOfCity() {
    says("VALUE: of a CITY 2 V (wrapping)");
    int[][] doubled = {
      {0, 0}, {1, 2}, {-1, -2}, {(1 << 30) - 1, MAX - 1}, {1 << 30, MIN}, {(1 << 30) + 1, MIN + 2}, {MAX, -2},
      {-(1 << 30), MIN}, {-(1 << 30) - 1, MAX - 1}, {MIN, 0}, {MIN + 1, 2}
    };
    ObjectLoads x = of(CITY);
    for (int[] pair : doubled) {
      x.value(0, pair[0]);
      due("V " + pair[0] + ", tells", x.tells(0, 1), pair[1]);
      due("load", x.load(0, false), 1);
      due("V " + pair[0] + ", column", x.column(0), pair[1]);
    }
  }

  private static void valueOfMasked() {
    says("VALUE: of a MASKED what a CITY tells, and 1");
    int[][] masked = {
      {0, 1}, {1, 3}, {-1, -1}, {(1 << 30) - 1, MAX}, {1 << 30, MIN + 1}, {MAX, -1}, {-(1 << 30), MIN + 1},
      {-(1 << 30) - 1, MAX}, {MIN, 1}, {MIN + 1, 3}
    };
    ObjectLoads x = of(MASKED);
    for (int[] pair : masked) {
      x.value(0, pair[0]);
      due("V " + pair[0] + ", tells", x.tells(0, 1), pair[1]);
      due("load", x.load(0, false), 1);
      due("V " + pair[0] + ", column", x.column(0), pair[1]);
    }
  }

  private static void valueOfBroken() {
    says("VALUE: of a BROKEN 100 / V (cut toward 0; V 0: ARITHMETIC)");
    int[][] shares = {
      {1, 100}, {-1, -100}, {2, 50}, {3, 33}, {-3, -33}, {7, 14}, {-7, -14}, {51, 1}, {-51, -1}, {99, 1}, {-99, -1},
      {100, 1}, {-100, -1}, {101, 0}, {-101, 0}, {MAX, 0}, {MIN, 0}, {0, ARITHMETIC}
    };
    ObjectLoads x = of(BROKEN);
    for (int[] pair : shares) {
      x.value(0, pair[0]);
      due("V " + pair[0] + ", tells", x.tells(0, 1), pair[1]);
      due("V " + pair[0] + ", load", x.load(0, false), pair[0] == 0 ? ARITHMETIC : 1);
      due("V " + pair[0] + ", column", x.column(0), pair[0] == 0 ? 0 : pair[1]);
    }
    dueRefused("V 0", x, 0, NONE, 4);
  }

  private static void linksByNext() {
    says("LINKS of a POINT, BROKEN, EMPTY: NEXT, if there is one, CAST: it is a BRIDGE");
    for (int sort : NEXT_SORTS) {
      ObjectLoads x = of(sort, POINT, BRIDGE);
      for (int i = 0; i <= 5; i++) {
        x.place(0, i, 2);
      }
      due("sort " + sort + ", none, whatever its PLACES hold", x.tells(0, 2), 0);
      due("load", x.load(0, false), 1);
      for (int i = 0; i <= 5; i++) {
        x.place(0, i, NONE);
      }
      x.next(0, 1);
      due("sort " + sort + ", one", x.tells(0, 2), 1);
      due("load", x.load(0, false), 2);
      due("no HOLES, though its PLACES hold none", x.holes(), 0);
      x.next(0, 0);
      due("sort " + sort + ", itself", x.tells(0, 2), 1);
      due("load", x.load(0, false), 1);
      due("arcs", x.arcs(0), 1);
      x.next(0, 2);
      due("sort " + sort + ", a BRIDGE", x.tells(0, 2), CAST);
      due("load", x.load(0, false), CAST);
      dueRefused("sort " + sort, x, 0, NONE, 3);
      due("the BRIDGE was not asked", x.asked(2), 0);
      x.next(0, NONE);
      due("sort " + sort + ", none again", x.load(0, false), 1);
      due("arcs", x.arcs(0), 0);
    }
  }

  private static void linksOfCity() {
    says("LINKS of a CITY: what PLACES hold, from 0 on");
    ObjectLoads x = of(CITY, POINT, POINT, POINT, POINT, POINT, POINT, BRIDGE);
    x.next(0, 7);
    due("none hold any, whatever NEXT is", x.load(0, false), 1);
    due("arcs", x.arcs(0), 0);
    due("tells", x.tells(0, 2), 6);
    for (int i = 0; i <= 5; i++) {
      x.place(0, i, 6 - i);
    }
    due("all hold one", x.load(0, false), 7);
    due("arcs", x.arcs(0), 6);
    due("tells", x.tells(0, 2), 6);
    for (int i = 0; i <= 5; i++) {
      due("ARC " + i, x.arc(0, i, 0), i + 1);
      due("the THING in PLACE " + i, x.of(i + 1), 6 - i);
    }
    for (int i = 0; i <= 5; i++) {
      x.place(0, i, i == 0 || i == 5 ? 3 : NONE);
    }
    due("the first and the last one alone, the same in both", x.load(0, false), 2);
    due("arcs", x.arcs(0), 2);
    due("ARC 1", x.arc(0, 1, 0), 1);
    x.place(7, 0, 2);
    for (int i = 0; i <= 5; i++) {
      x.place(0, i, 7);
      due("a BRIDGE in PLACE " + i + " is no CAST", x.tells(0, 2), 6);
    }
    due("BRIDGES alone", x.load(0, false), 2);
    due("arcs", x.arcs(0), 6);
  }

  private static void linksOfMasked() {
    says("LINKS of a MASKED likewise, CAST: one of them is a BRIDGE");
    ObjectLoads x = of(MASKED, POINT, BRIDGE, POINT);
    x.next(0, 2);
    x.place(2, 0, 1);
    due("none hold any, whatever NEXT is", x.load(0, false), 1);
    due("HOLES", x.holes(), 6);
    for (int i = 0; i <= 5; i++) {
      x.place(0, i, 2);
      due("a BRIDGE in PLACE " + i + " alone", x.tells(0, 2), CAST);
      due("load", x.load(0, false), CAST);
      dueRefused("PLACE " + i, x, 0, NONE, 3);
      x.place(0, i, i % 2 == 0 ? 1 : 3);
      due("a NODE in PLACE " + i, x.tells(0, 2), 6);
    }
    due("the BRIDGE was not asked", x.asked(2), 0);
    due("all hold a NODE", x.load(0, false), 3);
    due("arcs", x.arcs(0), 6);
    due("from PLACE 0 on", x.of(1), 1);
    x.place(0, 5, 2);
    due("a BRIDGE behind NODES", x.load(0, false), CAST);
    due("the NODES ahead of it were not asked by it", x.asked(1), 2);
  }

  private static void linksOfShort() {
    says("LINKS of a SHORT: what the PLACE V holds; INDEX: there is no such place");
    ObjectLoads x = of(SHORT, POINT, BRIDGE);
    for (int v : new int[] {MIN, -6, -1, 6, 7, MAX}) {
      x.value(0, v);
      due("V " + v, x.tells(0, 2), INDEX);
      due("load", x.load(0, false), INDEX);
      dueRefused("V " + v, x, 0, NONE, 2);
      due("its VALUE", x.tells(0, 1), v);
    }
    for (int v = 0; v <= 5; v++) {
      x.value(0, v);
      due("V " + v, x.tells(0, 2), 1);
      due("load, a HOLE", x.load(0, false), 1);
      due("arcs", x.arcs(0), 0);
      due("HOLES", x.holes(), 1);
      x.place(0, v, 1);
      due("V " + v, x.tells(0, 2), 1);
      due("load, a NODE", x.load(0, false), 2);
      due("arcs", x.arcs(0), 1);
      due("HOLES", x.holes(), 0);
      x.place(0, v, NONE);
    }
    x.value(0, 3);
    for (int i = 0; i <= 5; i++) {
      x.place(0, i, i == 3 ? NONE : 2);
    }
    due("what other PLACES hold is not told", x.load(0, false), 1);
    x.place(0, 3, 2);
    x.place(2, 0, 0);
    x.place(2, 1, 1);
    due("a BRIDGE is no CAST", x.tells(0, 2), 1);
    due("a BRIDGE is followed", x.load(0, false), 2);
    due("through it", x.arc(0, 0, 2), 1);
  }

  private static void holesOfPlaces() {
    says("A PLACE that holds none counts as a HOLE; so does the one of a SHORT; no other one");
    for (int sort : new int[] {CITY, MASKED}) {
      ObjectLoads x = of(sort, POINT);
      for (int i = 0; i <= 5; i++) {
        x.load(0, false);
        due("sort " + sort + " with " + i + " that hold one", x.holes(), 6 - i);
        due("HOLES are told, too", x.tells(0, 2), 6);
        x.place(0, i, 1);
      }
      x.load(0, false);
      due("sort " + sort + ", all hold one", x.holes(), 0);
    }
    ObjectLoads x = of(SHORT, POINT, CITY, BRIDGE);
    x.load(0, false);
    due("the one of a SHORT", x.holes(), 1);
    x.place(0, 1, 1);
    x.load(0, false);
    due("none of the others of a SHORT", x.holes(), 0);
    for (int sort : NEXT_SORTS) {
      ObjectLoads y = of(sort);
      y.load(0, false);
      due("sort " + sort + ", no NEXT is no HOLE", y.holes(), 0);
    }
    for (int i = 0; i <= 5; i++) {
      x.place(2, i, 3);
    }
    x.place(3, 0, 1);
    due("load through a BRIDGE", x.load(2, false), 2);
    due("none of a BRIDGE", x.holes(), 0);
  }

  private static void otherEndOfBridge() {
    says("A BRIDGE tells the other end: the one in PLACE 1, if n is in PLACE 0, else that in PLACE 0");
    ObjectLoads x = of(CITY, BRIDGE, POINT, POINT);
    x.place(0, 5, 1);
    int[][] ends = {
      {0, 2, 2}, {2, 0, 2}, {2, 3, 2}, {2, 2, 2}, {2, NONE, 2}, {2, 1, 2}, {0, 0, 0}, {3, 0, 3}, {0, 3, 3}
    };
    for (int[] row : ends) {
      x.place(1, 0, row[0]);
      x.place(1, 1, row[1]);
      due("ends " + row[0] + " and " + row[1] + ", load", x.load(0, false), row[2] == 0 ? 1 : 2);
      due("ends " + row[0] + " and " + row[1], x.of(x.arc(0, 0, 0)), row[2]);
      due("through a BRIDGE", x.arc(0, 0, 2), 1);
    }
    x.place(1, 0, 0);
    x.place(1, 1, 2);
    x.next(1, 3);
    for (int i = 2; i <= 5; i++) {
      x.place(1, i, 3);
    }
    due("its other PLACES and its NEXT are no ends", x.load(0, false), 2);
    due("the end", x.of(1), 2);
  }

  private static void bridgeWithoutEnd() {
    says("A BRIDGE: NULL: that is none");
    ObjectLoads x = of(CITY, BRIDGE, POINT);
    x.place(0, 0, 1);
    due("no ends", x.load(0, false), NULL);
    dueRefused("no ends", x, 1, NONE, 1);
    x.place(1, 0, 0);
    due("n in PLACE 0, none in PLACE 1", x.load(0, false), NULL);
    dueRefused("n in PLACE 0", x, 1, NONE, 1);
    x.place(1, 0, NONE);
    x.place(1, 1, 0);
    due("none in PLACE 0, n in PLACE 1", x.load(0, false), NULL);
    dueRefused("n in PLACE 1", x, 1, NONE, 1);
    x.place(1, 1, 2);
    due("none in PLACE 0, another in PLACE 1", x.load(0, false), NULL);
    dueRefused("another in PLACE 1", x, 1, NONE, 1);
    due("its end was asked, its VALUE never", x.asked(1), 4);
    due("it tells 2 LINKS all the same", x.tells(1, 2), 2);
  }

  private static void bridgeToBridge() {
    says("A BRIDGE: CAST: it is a BRIDGE");
    ObjectLoads x = of(CITY, BRIDGE, BRIDGE);
    x.place(0, 0, 1);
    x.place(2, 0, 0);
    x.place(1, 0, 2);
    due("another one in PLACE 0", x.load(0, false), CAST);
    dueRefused("PLACE 0", x, 1, NONE, 3);
    x.place(1, 0, 0);
    x.place(1, 1, 2);
    due("another one in PLACE 1", x.load(0, false), CAST);
    dueRefused("PLACE 1", x, 1, NONE, 3);
    x.place(1, 1, 1);
    due("itself in PLACE 1", x.load(0, false), CAST);
    x.place(1, 0, 1);
    due("itself in both", x.load(0, false), CAST);
    dueRefused("itself", x, 1, NONE, 3);
    due("its end was asked, its VALUE never", x.asked(1), 4);
    due("the other one was not asked", x.asked(2), 0);
    due("it tells 2 LINKS all the same", x.tells(1, 2), 2);
  }

  private static void numberedAsFound() {
    says("NODES are numbered as they are found: THE ROOT is 0; one by one");
    ObjectLoads x = new ObjectLoads();
    for (int i = 0; i < 40; i++) {
      x.thing(POINT, i, i);
      if (i > 0) {
        x.next(i, i - 1);
      }
    }
    due("all 40 in a row", x.load(39, true), 40);
    for (int n = 0; n < 40; n++) {
      due("NODE " + n, x.of(n), 39 - n);
      due("THING " + n, x.node(n), 39 - n);
      due("VALUE of " + n, x.column(n), 39 - n);
    }
    due("the last one alone", x.load(0, true), 1);
    due("NODE 0", x.of(0), 0);
    due("the others are not found any more", x.node(39), NONE);
    ObjectLoads y = of(CITY, CITY, POINT, POINT, BRIDGE, POINT);
    y.place(0, 0, 4);
    y.place(4, 0, 3);
    y.place(0, 1, 1);
    y.place(0, 2, 3);
    y.place(0, 3, 0);
    y.place(1, 0, 2);
    y.next(3, 5);
    due("found in width", y.load(0, false), 6 - 1);
    int[] found = {0, 3, 1, 5, 2};
    for (int n = 0; n < found.length; n++) {
      due("NODE " + n, y.of(n), found[n]);
    }
  }

  private static void askedInOrder() {
    says("each is asked: its VALUE; by KEYS its KEY, ahead of that; then its LINKS");
    ObjectLoads x = of(BROKEN, BRIDGE, POINT);
    x.value(0, 0);
    x.next(0, 1);
    due("VALUE and LINKS FAIL", x.load(0, false), ARITHMETIC);
    due("its VALUE was asked", x.asked(0), 1);
    x.value(0, 1);
    due("LINKS FAIL", x.load(0, false), CAST);
    due("its VALUE, its LINKS", x.asked(0), 3);
    due("LINKS FAIL, by KEYS", x.load(0, true), CAST);
    due("its KEY, its VALUE, its LINKS", x.asked(0), 6);
    ObjectLoads y = of(EMPTY, BRIDGE);
    y.next(0, 1);
    due("KEY and LINKS FAIL, by KEYS", y.load(0, true), NULL);
    due("KEY and LINKS FAIL, by IDENTITY", y.load(0, false), CAST);
    ObjectLoads z = of(POINT, BROKEN, SHORT);
    z.key(1, 100);
    z.value(1, 0);
    z.next(0, 1);
    due("KEY is DOUBLE and VALUE FAILS", z.load(0, true), DOUBLE);
    due("its KEY alone was asked", z.asked(1), 1);
    due("by IDENTITY", z.load(0, false), ARITHMETIC);
    ObjectLoads w = of(CITY, SHORT, BROKEN);
    w.place(0, 0, 2);
    w.place(0, 1, 1);
    w.value(1, 6);
    w.value(2, 0);
    due("the one that is found first FAILS first", w.load(0, false), ARITHMETIC);
    due("the other one was not asked", w.asked(1), 0);
  }

  private static void allLinksAtOnce() {
    says("then its LINKS, all of them (as it FAILS)");
    ObjectLoads x = of(MASKED, POINT, BRIDGE, BRIDGE);
    x.place(0, 0, 1);
    x.place(0, 5, 2);
    due("a MASKED whose last one is a BRIDGE", x.load(0, false), CAST);
    dueRefused("a MASKED", x, 0, NONE, 3);
    due("no BRIDGE was asked", x.asked(2), 0);
    ObjectLoads y = of(CITY, POINT, BRIDGE, BRIDGE);
    y.place(0, 0, 2);
    y.place(0, 1, 3);
    y.place(2, 0, 1);
    due("a CITY's BRIDGES one by one", y.load(0, false), NULL);
    dueRefused("a CITY", y, 3, NONE, 1);
    due("the first one was asked its end and its VALUE", y.asked(2), 2);
    due("the second one was asked its end", y.asked(3), 1);
    due("the NODE that was found was not asked", y.asked(1), 0);
    due("nothing is LOADED", y.count(1), 0);
  }

  private static void arcsToFoundNodes() {
    says("each gives an ARC: to a NODE, that is found by it, if it was not; WEIGHT 1");
    ObjectLoads x = of(CITY, POINT);
    for (int i = 0; i <= 5; i++) {
      x.place(0, i, i < 3 ? 1 : 0);
    }
    x.next(1, 0);
    due("load", x.load(0, true), 2);
    due("arcs of 0", x.arcs(0), 6);
    for (int k = 0; k < 6; k++) {
      due("ARC " + k + " leads to", x.arc(0, k, 0), k < 3 ? 1 : 0);
      due("ARC " + k + ", WEIGHT", x.arc(0, k, 1), 1);
      due("ARC " + k + ", BRIDGE", x.arc(0, k, 2), 0);
    }
    due("back to the ROOT", x.arc(1, 0, 0), 0);
    due("each is asked once", x.asked(1), 3);
    due("a VALUE is no WEIGHT", x.value(1, 9), 1);
    x.load(0, false);
    due("WEIGHT", x.arc(0, 0, 1), 1);
  }

  private static void weightOfBridge() {
    says("through a BRIDGE to its other end, WEIGHT is the BRIDGE's VALUE (which is asked behind its end)");
    ObjectLoads x = of(CITY, BRIDGE, POINT);
    x.place(0, 0, 1);
    x.place(1, 0, 0);
    due("an end that FAILS", x.load(0, false), NULL);
    due("its VALUE was not asked", x.asked(1), 1);
    x.place(1, 1, 2);
    for (int edge : EDGES) {
      x.value(1, edge);
      due("V " + edge, x.load(0, true), 2);
      due("WEIGHT", x.arc(0, 0, 1), edge);
      due("through a BRIDGE", x.arc(0, 0, 2), 1);
      due("to its other end", x.arc(0, 0, 0), 1);
    }
    due("its end, its VALUE, never its KEY", x.asked(1), 1 + 2 * EDGES.length);
  }

  private static void doubles() {
    says("By KEYS, a NODE whose KEY another NODE has that was asked ahead of it: DOUBLE");
    for (int edge : EDGES) {
      ObjectLoads x = of(POINT, POINT);
      x.next(0, 1);
      x.key(0, edge);
      x.key(1, edge);
      due("KEY " + edge, x.load(0, true), DOUBLE);
      dueRefused("KEY " + edge, x, 1, 0, 6);
      due("by IDENTITY", x.load(0, false), 2);
      x.key(1, edge + 1);
      due("KEYS " + edge + " and one more", x.load(0, true), 2);
      x.key(1, edge ^ MIN);
      due("KEYS of one bit's difference", x.load(0, true), 2);
    }
    ObjectLoads x = of(CITY, POINT, BRIDGE, POINT, EMPTY);
    x.place(0, 0, 1);
    x.place(0, 1, 1);
    x.place(0, 2, 0);
    due("the same NODE twice is none", x.load(0, true), 2);
    x.place(2, 0, 1);
    x.place(0, 3, 2);
    x.key(2, 100);
    due("a BRIDGE's KEY is none", x.load(0, true), 2);
    x.key(3, 101);
    due("a NODE that is not found is none", x.load(0, true), 2);
    x.key(4, 101);
    x.place(0, 4, 4);
    due("an EMPTY that is not HELD is NULL", x.load(0, true), NULL);
    dueRefused("an EMPTY", x, 4, NONE, 1);
    x.hold(4, true);
    due("one that is HELD", x.load(0, true), DOUBLE);
    dueRefused("an EMPTY that is HELD", x, 4, 1, 6);
  }

  private static void whatFailsEndsIt() {
    says("What FAILS ends it: the THING that told it (of a BRIDGE that), the CAUSE, or 6 DOUBLE");
    ObjectLoads x = new ObjectLoads();
    for (int i = 0; i < 40; i++) {
      x.thing(i == 38 ? BRIDGE : i == 37 ? CITY : i == 39 ? BROKEN : POINT, i, i);
      if (i > 0) {
        x.next(i - 1, i);
      }
    }
    x.place(37, 5, 38);
    due("the 39th THING, a BRIDGE, at the end of a row", x.load(0, true), NULL);
    dueRefused("a BRIDGE", x, 38, NONE, 1);
    due("all ahead of it were asked", x.asked(37), 3);
    x.place(38, 0, 39);
    x.value(39, 0);
    due("the 40th THING behind it", x.load(0, true), ARITHMETIC);
    dueRefused("the 40th", x, 39, NONE, 4);
    x.key(39, 0);
    due("the 40th is DOUBLE with the first", x.load(0, true), DOUBLE);
    dueRefused("DOUBLE", x, 39, 0, 6);
    x.key(39, 37);
    due("the 40th is DOUBLE with the last ahead of it", x.load(0, true), DOUBLE);
    dueRefused("DOUBLE", x, 39, 37, 6);
    due("nothing is LOADED", x.count(1), 0);
    due("load()s that ended so", x.count(3), 4);
    x.key(39, 39);
    x.value(39, -100);
    due("nothing FAILS", x.load(0, true), 39);
    due("the last VALUE", x.column(38), -1);
  }

  private static void askedInAnyCase() {
    says("How often a THING was asked counts in any case: its KEY, its VALUE, its LINKS (a BRIDGE: its end) by one each");
    ObjectLoads x = of(CITY, BRIDGE, POINT, BROKEN, EMPTY, SHORT);
    due("not yet", x.asked(0), 0);
    x.load(0, false);
    due("by IDENTITY: VALUE, LINKS", x.asked(0), 2);
    x.load(0, true);
    due("by KEYS: KEY, VALUE, LINKS", x.asked(0), 5);
    x.load(4, true);
    due("a KEY that FAILS", x.asked(4), 1);
    x.value(3, 0);
    x.load(3, false);
    due("a VALUE that FAILS", x.asked(3), 1);
    x.load(3, true);
    due("a KEY, a VALUE that FAILS", x.asked(3), 3);
    x.value(5, 6);
    x.load(5, false);
    due("a VALUE, LINKS that FAIL", x.asked(5), 2);
    x.load(5, true);
    due("a KEY, a VALUE, LINKS that FAIL", x.asked(5), 5);
    x.place(0, 0, 1);
    x.load(0, false);
    due("LINKS, behind which a BRIDGE FAILS", x.asked(0), 7);
    due("an end that FAILS", x.asked(1), 1);
    x.place(1, 0, 2);
    x.place(0, 1, 1);
    x.load(0, false);
    due("a BRIDGE that is met twice: its end, its VALUE, twice", x.asked(1), 5);
    due("a NODE that is found twice", x.asked(2), 2);
    x.key(2, 100);
    x.load(0, true);
    due("a DOUBLE: its KEY", x.asked(2), 3);
    due("the other one: all", x.asked(0), 12);
    due("load() that is UNKNOWN", x.load(6, true), UNKNOWN);
    due("load() that is STATE", x.load(1, true), STATE);
    due("nothing more was asked", x.asked(1), 9);
  }

  public static void main(String[] args) {
    calls512();
    thingsZeroTo39();
    keyAndVOf32Bits();
    nextNoneAtFirst();
    placesNoneAtFirst();
    notHeldAtFirst();
    firstCodeThatFits();
    unknownOnes();
    codes();
    sorts();
    nodesAreAllButBridges();
    causes();
    keyTold();
    valueTold();
    valueOfCity();
    valueOfMasked();
    valueOfBroken();
    linksByNext();
    linksOfCity();
    linksOfMasked();
    linksOfShort();
    holesOfPlaces();
    otherEndOfBridge();
    bridgeWithoutEnd();
    bridgeToBridge();
    numberedAsFound();
    askedInOrder();
    allLinksAtOnce();
    arcsToFoundNodes();
    weightOfBridge();
    doubles();
    whatFailsEndsIt();
    askedInAnyCase();
    System.out.println(sentences + " sentences: " + (wrong == 0 ? "all answers are as due" : wrong + " answers are not as due"));
    if (wrong != 0) {
      System.exit(1);
    }
  }
}
