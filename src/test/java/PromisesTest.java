/** Every promise of the document: ordinary inputs, the edges that it names, and wrong inputs. */
public final class PromisesTest {
  private static final int UNKNOWN = -1000001, OUTSIDE = -1000002, STATE = -1000003, ROOM = -1000004, NONE = -1000009;
  private static final int NULL = -1000011, INDEX = -1000012, CAST = -1000013, ARITHMETIC = -1000014;
  private static final int STORE = -1000015, DOUBLE = -1000016;
  private static final int POINT = 0, CITY = 1, BRIDGE = 2, BROKEN = 3, MASKED = 4, SHORT = 5, EMPTY = 6;
  private static final int MIN = Integer.MIN_VALUE, MAX = Integer.MAX_VALUE;

  private static int promise = 0;
  private static int wrong = 0;

  private static void due(String call, int got, int want) {
    if (got != want) {
      wrong++;
      System.out.println("promise " + promise + ": " + call + " answered " + got + ", due is " + want);
    }
  }

  public static void main(String[] args) {
    newObject();
    thing();
    value();
    key();
    next();
    place();
    hold();
    copy();
    copyWithinOneThing();
    copyIntoMasked();
    load();
    loadInOrder();
    loadByKeys();
    loadFailing();
    loadBridges();
    loadFailedIsUndone();
    refused();
    node();
    of();
    column();
    arcs();
    arc();
    way();
    fullGraph();
    holes();
    asked();
    tells();
    is();
    count();
    clear();
    System.out.println(wrong == 0 ? "all answers are as due" : wrong + " answers are not as due");
    if (wrong != 0) {
      System.exit(1);
    }
  }

  /** An object with one thing of each sort: key 10 times its number, V its number; EMPTY is held. */
  private static ObjectLoads oneOfEach() {
    ObjectLoads x = new ObjectLoads();
    for (int sort = POINT; sort <= EMPTY; sort++) {
      x.thing(sort, 10 * sort, sort);
    }
    x.hold(EMPTY, true);
    return x;
  }

  private static ObjectLoads of(int... sorts) {
    ObjectLoads x = new ObjectLoads();
    for (int i = 0; i < sorts.length; i++) {
      x.thing(sorts[i], 100 + i, 1);
    }
    return x;
  }

  private static void newObject() {
    promise = 1;
    ObjectLoads x = new ObjectLoads();
    for (int what = 0; what <= 3; what++) {
      due("count", x.count(what), 0);
    }
    for (int what = 0; what <= 2; what++) {
      due("refused", x.refused(what), NONE);
    }
    due("holes", x.holes(), 0);
    due("node", x.node(0), UNKNOWN);
    due("of", x.of(0), UNKNOWN);
    due("asked", x.asked(0), UNKNOWN);
    due("load", x.load(0, false), UNKNOWN);
    x.thing(POINT, 1, 1);
    due("node of a thing, nothing loaded", x.node(0), NONE);
    due("way, nothing loaded", x.way(0, 0), UNKNOWN);
    ObjectLoads y = new ObjectLoads();
    due("another object has its own things", y.count(0), 0);
  }

  private static void thing() {
    promise = 2;
    ObjectLoads x = new ObjectLoads();
    due("sort -1", x.thing(-1, 0, 0), OUTSIDE);
    due("sort 7", x.thing(7, 0, 0), OUTSIDE);
    due("sort MIN", x.thing(MIN, 0, 0), OUTSIDE);
    due("sort MAX", x.thing(MAX, 0, 0), OUTSIDE);
    due("nothing changed", x.count(0), 0);
    for (int i = 0; i < 40; i++) {
      due("number", x.thing(i % 7, MIN + i, MAX - i), i);
    }
    due("the 41st", x.thing(POINT, 0, 0), ROOM);
    due("OUTSIDE is ahead of ROOM", x.thing(7, 0, 0), OUTSIDE);
    due("count", x.count(0), 40);
    due("key", x.key(39, 0), MIN + 39);
    due("v", x.value(39, 0), MAX - 39);
    due("not held", x.hold(39, false), 0);
    for (int i = 0; i < 7; i++) {
      due("sort " + i, x.is(i, 0) + 2 * x.is(i, 1) + 4 * x.is(i, 2), new int[] {1, 3, 4, 1, 3, 3, 1}[i]);
    }
  }

  private static void value() {
    promise = 3;
    ObjectLoads x = of(POINT, BRIDGE);
    due("value", x.value(0, MIN), 1);
    due("value", x.value(0, MAX), MIN);
    due("value", x.value(0, UNKNOWN), MAX);
    due("any number", x.value(0, 5), UNKNOWN);
    due("of a bridge", x.value(1, 9), 1);
    due("the other one stays", x.tells(0, 1), 5);
    due("key stays", x.tells(0, 0), 100);
    due("-1", x.value(-1, 0), UNKNOWN);
    due("2", x.value(2, 0), UNKNOWN);
    due("NONE", x.value(NONE, 0), UNKNOWN);
  }

  private static void key() {
    promise = 4;
    ObjectLoads x = of(POINT, EMPTY);
    due("key", x.key(0, MIN), 100);
    due("key", x.key(0, 7), MIN);
    due("told", x.tells(0, 0), 7);
    due("v stays", x.tells(0, 1), 1);
    due("of an EMPTY that is not held", x.key(1, 8), 101);
    due("of an EMPTY that is not held", x.key(1, 9), 8);
    due("-1", x.key(-1, 0), UNKNOWN);
    due("2", x.key(2, 0), UNKNOWN);
    due("MIN", x.key(MIN, 0), UNKNOWN);
  }

  private static void next() {
    promise = 5;
    ObjectLoads x = of(POINT, POINT, BRIDGE);
    due("none at first", x.tells(0, 2), 0);
    due("next", x.next(0, 1), 1);
    due("one link", x.tells(0, 2), 1);
    due("unknown other", x.next(0, 3), UNKNOWN);
    due("-1 is not none", x.next(0, -1), UNKNOWN);
    due("nothing changed", x.load(0, false), 2);
    due("unknown thing", x.next(3, 0), UNKNOWN);
    due("unknown thing, none", x.next(-1, NONE), UNKNOWN);
    due("a bridge", x.next(0, 2), 1);
    due("a bridge fails", x.tells(0, 2), CAST);
    due("itself", x.next(0, 0), 1);
    x.load(0, false);
    due("an arc to itself", x.arc(0, 0, 0), 0);
    due("none", x.next(0, NONE), 1);
    due("no link", x.tells(0, 2), 0);
    due("of a bridge", x.next(2, 0), 1);
    due("of a city: not a link", of(CITY).next(0, 0), 1);
  }

  private static void place() {
    promise = 6;
    ObjectLoads x = of(CITY, POINT);
    for (int i = 0; i < 6; i++) {
      due("place", x.place(0, i, 1), 1);
      x.load(0, false);
      due("arcs", x.arcs(0), i + 1);
    }
    due("place -1", x.place(0, -1, 1), OUTSIDE);
    due("place 6", x.place(0, 6, 1), OUTSIDE);
    due("place MAX", x.place(0, MAX, NONE), OUTSIDE);
    due("UNKNOWN is ahead", x.place(2, 6, 1), UNKNOWN);
    due("UNKNOWN is ahead, the other one", x.place(0, 6, 2), UNKNOWN);
    due("unknown other", x.place(0, 0, -1), UNKNOWN);
    due("unknown thing", x.place(-1, 0, 0), UNKNOWN);
    x.load(0, false);
    due("nothing changed", x.arcs(0), 6);
    due("none", x.place(0, 5, NONE), 1);
    x.load(0, false);
    due("arcs", x.arcs(0), 5);
    due("a bridge into a MASKED", of(MASKED, BRIDGE).place(0, 0, 1), 1);
  }

  private static void hold() {
    promise = 7;
    ObjectLoads x = of(EMPTY, POINT);
    due("not at first", x.hold(0, true), 0);
    due("key", x.tells(0, 0), 100);
    due("it was", x.hold(0, true), 1);
    due("it was", x.hold(0, false), 1);
    due("no key", x.tells(0, 0), NULL);
    due("it was not", x.hold(0, false), 0);
    due("a point", x.hold(1, false), 0);
    due("a point tells its key all the same", x.tells(1, 0), 101);
    due("unknown", x.hold(2, true), UNKNOWN);
    due("unknown", x.hold(-1, false), UNKNOWN);
  }

  /** What the places of a CITY hold, told by its arcs: a digit for the thing, or 9 for a hole. */
  private static int placesOf(ObjectLoads x, int thing) {
    int probe = x.count(0);
    x.thing(SHORT, 1000 + probe, 0);
    int told = 0;
    for (int i = 0; i < 6; i++) {
      x.value(probe, i);
      x.copy(thing, 0, probe, 0, 6);
      x.load(probe, false);
      told = 10 * told + (x.arcs(0) == 0 ? 9 : x.of(x.arc(0, 0, 0)));
    }
    return told;
  }

  private static ObjectLoads cityOfPoints(int sort) {
    ObjectLoads x = of(sort, POINT, POINT, POINT, POINT, CITY);
    x.place(0, 0, 1);
    x.place(0, 1, 2);
    x.place(0, 2, 3);
    x.place(0, 4, 4);
    return x;
  }

  private static void copy() {
    promise = 8;
    ObjectLoads x = cityOfPoints(CITY);
    due("at first", placesOf(x, 0), 123949);
    due("copy", x.copy(0, 1, 5, 2, 4), 1);
    due("copied", placesOf(x, 5), 992394);
    due("source stays", placesOf(x, 0), 123949);
    due("a hole is copied, too", x.copy(0, 3, 5, 2, 1), 1);
    due("copied", placesOf(x, 5), 999394);
    due("none of them", x.copy(0, 6, 5, 6, 0), 1);
    due("none of them", x.copy(0, 0, 5, 0, 0), 1);
    due("none of them, from 7", x.copy(0, 7, 5, 0, 0), INDEX);
    due("none of them, to 7", x.copy(0, 0, 5, 7, 0), INDEX);
    due("n -1", x.copy(0, 1, 5, 1, -1), INDEX);
    due("n 7", x.copy(0, 0, 5, 0, 7), INDEX);
    due("a -1", x.copy(0, -1, 5, 0, 1), INDEX);
    due("b -1", x.copy(0, 0, 5, -1, 1), INDEX);
    due("a 6", x.copy(0, 6, 5, 0, 1), INDEX);
    due("b 6", x.copy(0, 0, 5, 6, 1), INDEX);
    due("a + n wraps", x.copy(0, MAX, 5, 0, MAX), INDEX);
    due("b + n wraps", x.copy(0, 0, 5, MAX, 1), INDEX);
    due("n MIN", x.copy(0, 0, 5, 0, MIN), INDEX);
    due("nothing changed", placesOf(x, 5), 999394);
    due("UNKNOWN is ahead", x.copy(-1, -1, 5, 0, 0), UNKNOWN);
    due("UNKNOWN is ahead, the other one", x.copy(0, 7, 39, 0, 0), UNKNOWN);
    due("NONE is no thing", x.copy(0, 0, NONE, 0, 1), UNKNOWN);
    due("all", x.copy(0, 0, 5, 0, 6), 1);
    due("copied", placesOf(x, 5), 123949);
  }

  private static void copyWithinOneThing() {
    ObjectLoads x = cityOfPoints(CITY);
    due("up", x.copy(0, 0, 0, 1, 5), 1);
    due("copied as through a row between", placesOf(x, 0), 112394);
    due("down", x.copy(0, 1, 0, 0, 5), 1);
    due("copied", placesOf(x, 0), 123944);
    due("in place", x.copy(0, 0, 0, 0, 6), 1);
    due("copied", placesOf(x, 0), 123944);
    x = of(CITY, BRIDGE);
    x.place(0, 0, 1);
    due("a bridge within a CITY", x.copy(0, 0, 0, 1, 1), 1);
    x = of(MASKED, POINT, BRIDGE);
    x.place(0, 0, 1);
    x.place(0, 1, 2);
    due("a bridge within a MASKED", x.copy(0, 0, 0, 1, 2), STORE);
    due("the one ahead of it was copied over it", x.tells(0, 2), 6);
  }

  private static void copyIntoMasked() {
    ObjectLoads x = of(CITY, MASKED, POINT, BRIDGE, POINT, SHORT, BRIDGE);
    x.place(0, 0, 2);
    x.place(0, 2, 3);
    x.place(0, 3, 4);
    x.place(1, 2, 4);
    x.place(1, 3, 2);
    due("a bridge", x.copy(0, 0, 1, 1, 4), STORE);
    due("it was not stored", x.tells(1, 2), 6);
    due("those ahead of it were, those behind it were not", placesOf(x, 1), 929299);
    due("a bridge at once", x.copy(0, 2, 1, 0, 1), STORE);
    due("no bridge among them", x.copy(0, 3, 1, 0, 3), 1);
    due("copied", placesOf(x, 1), 499299);
    due("INDEX is ahead", x.copy(0, 2, 1, 5, 2), INDEX);
    due("nothing changed", placesOf(x, 1), 499299);
    due("none of them", x.copy(0, 2, 1, 0, 0), 1);
    due("a bridge into a SHORT", x.copy(0, 2, 5, 0, 1), 1);
    due("a bridge into a BRIDGE", x.copy(0, 2, 6, 0, 1), 1);
    x.place(1, 0, 3);
    due("from a MASKED to a CITY", x.copy(1, 0, 0, 5, 1), 1);
  }

  private static void load() {
    promise = 9;
    ObjectLoads x = oneOfEach();
    due("unknown", x.load(7, false), UNKNOWN);
    due("unknown", x.load(-1, true), UNKNOWN);
    due("NONE", x.load(NONE, true), UNKNOWN);
    due("a bridge", x.load(BRIDGE, false), STATE);
    due("a bridge", x.load(BRIDGE, true), STATE);
    due("nothing counts", x.count(3), 0);
    for (int sort = POINT; sort <= EMPTY; sort++) {
      if (sort != BRIDGE) {
        due("one node", x.load(sort, false), 1);
        due("it", x.of(0), sort);
        due("one node by keys", x.load(sort, true), 1);
      }
    }
    x.next(POINT, CITY);
    x.place(CITY, 5, SHORT);
    x.place(SHORT, 5, MASKED);
    x.place(MASKED, 0, BROKEN);
    x.next(BROKEN, EMPTY);
    x.next(EMPTY, POINT);
    due("a ring", x.load(POINT, true), 6);
    due("from the middle", x.load(MASKED, false), 6);
    due("its root", x.of(0), MASKED);
    x.place(SHORT, 5, NONE);
    x.place(SHORT, 4, MASKED);
    due("a SHORT tells its PLACE V alone", x.load(POINT, false), 3);
    x.next(SHORT, MASKED);
    due("not its NEXT", x.load(POINT, false), 3);
    x.place(POINT, 0, MASKED);
    due("a POINT tells no places", x.load(POINT, false), 3);
  }

  private static void loadInOrder() {
    ObjectLoads x = of(CITY, POINT, CITY, POINT, POINT);
    x.place(0, 1, 2);
    x.place(0, 2, 1);
    x.place(2, 0, 4);
    x.next(1, 3);
    due("load", x.load(0, false), 5);
    int[] found = {0, 2, 1, 4, 3};
    for (int n = 0; n < 5; n++) {
      due("found " + n, x.of(n), found[n]);
    }
  }

  private static void loadByKeys() {
    ObjectLoads x = of(CITY, POINT, BROKEN, BRIDGE);
    x.place(0, 0, 1);
    x.place(0, 1, 2);
    x.place(0, 2, 1);
    due("the same one twice is no double", x.load(0, true), 3);
    x.key(2, 101);
    x.value(2, 0);
    due("a double", x.load(0, true), DOUBLE);
    due("the one asked last", x.refused(0), 2);
    due("the other one", x.refused(1), 1);
    due("DOUBLE", x.refused(2), 6);
    due("its key was asked, not its value", x.asked(2), 4);
    due("by identity", x.load(0, false), ARITHMETIC);
    x.value(2, 1);
    due("by identity", x.load(0, false), 3);
    x.key(2, 100);
    due("the root's key", x.load(0, true), DOUBLE);
    due("the other one", x.refused(1), 0);
    x.key(2, 102);
    x.place(3, 0, 1);
    x.place(0, 3, 3);
    x.key(3, 100);
    due("the key of a bridge counts not", x.load(0, true), 3);
    x = of(CITY, POINT, POINT, POINT);
    x.key(2, 101);
    x.place(0, 0, 1);
    x.next(1, 3);
    due("one that is not found is no double", x.load(0, true), 3);
    x.key(3, 101);
    x.place(0, 1, 2);
    due("the first of two doubles", x.load(0, true), DOUBLE);
    due("it", x.refused(0), 2);
    x = of(EMPTY, EMPTY);
    x.key(1, 100);
    x.next(0, 1);
    x.hold(0, true);
    due("NULL is ahead of DOUBLE", x.load(0, true), NULL);
    due("it", x.refused(0), 1);
    due("the key is not needed by identity", x.load(0, false), 2);
  }

  private static void loadFailing() {
    ObjectLoads x = oneOfEach();
    x.hold(EMPTY, false);
    due("NULL", x.load(EMPTY, true), NULL);
    x.value(BROKEN, 0);
    x.next(BROKEN, BRIDGE);
    due("the value is ahead of the links", x.load(BROKEN, false), ARITHMETIC);
    x.value(BROKEN, 1);
    due("CAST of a BROKEN", x.load(BROKEN, false), CAST);
    x.next(EMPTY, BRIDGE);
    due("CAST of an EMPTY", x.load(EMPTY, false), CAST);
    x.next(POINT, BRIDGE);
    due("CAST of a POINT", x.load(POINT, false), CAST);
    x.value(SHORT, 6);
    due("INDEX", x.load(SHORT, false), INDEX);
    x.value(SHORT, -1);
    due("INDEX", x.load(SHORT, false), INDEX);
    x.value(SHORT, MIN);
    due("INDEX", x.load(SHORT, true), INDEX);
    for (int i = 0; i < 6; i++) {
      x.place(MASKED, i, BRIDGE);
      due("CAST of a MASKED", x.load(MASKED, false), CAST);
      due("it, not the bridge", x.refused(0), MASKED);
      x.place(MASKED, i, NONE);
    }
    due("the bridge was not asked", x.asked(BRIDGE), 0);
    due("a MASKED without one", x.load(MASKED, false), 1);
    x = of(CITY, BROKEN, SHORT);
    x.place(0, 0, 2);
    x.place(0, 5, 1);
    x.value(1, 0);
    x.value(2, 9);
    due("the one that is asked first fails", x.load(0, false), INDEX);
    due("it", x.refused(0), 2);
  }

  private static void loadBridges() {
    ObjectLoads x = of(CITY, BRIDGE, POINT, BRIDGE, SHORT);
    x.place(0, 0, 1);
    due("no ends", x.load(0, false), NULL);
    due("the bridge told it", x.refused(0), 1);
    x.place(1, 0, 0);
    due("no other end", x.load(0, false), NULL);
    x.place(1, 1, 2);
    due("the other end", x.load(0, false), 2);
    due("it", x.of(1), 2);
    x.place(1, 0, 2);
    x.place(1, 1, 0);
    due("the other way round", x.load(0, false), 2);
    due("it", x.of(1), 2);
    x.place(1, 1, NONE);
    due("a bridge that does not know the node tells PLACE 0", x.load(0, false), 2);
    x.place(1, 1, 3);
    due("what is not told does not fail", x.load(0, false), 2);
    x.place(1, 0, 3);
    due("a bridge at the end", x.load(0, false), CAST);
    due("the bridge told it", x.refused(0), 1);
    x.place(1, 0, 0);
    due("a bridge at the end in PLACE 1", x.load(0, false), CAST);
    x.place(1, 1, 0);
    due("both ends are the node", x.load(0, false), 1);
    due("an arc to itself", x.arc(0, 0, 0), 0);
    x.place(4, 1, 1);
    due("a SHORT through a bridge", x.load(4, false), 2);
    due("through a bridge", x.arc(0, 0, 2), 1);
    due("other places of a bridge", x.place(1, 2, 3), 1);
    due("count not", x.load(4, false), 2);
  }

  private static void loadFailedIsUndone() {
    ObjectLoads x = of(CITY, POINT, BROKEN, POINT);
    x.place(0, 0, 1);
    x.place(0, 1, 1);
    due("load", x.load(0, false), 2);
    x.value(0, 50);
    x.place(0, 0, 3);
    x.place(0, 2, 2);
    x.value(2, 0);
    due("fails late", x.load(0, false), ARITHMETIC);
    due("nodes", x.count(1), 2);
    due("arcs", x.count(2), 2);
    due("holes", x.holes(), 4);
    due("column", x.column(0), 2);
    due("node", x.node(1), 1);
    due("node", x.node(3), NONE);
    due("arc", x.arc(0, 0, 0), 1);
    due("arc", x.arc(0, 1, 0), 1);
    due("of", x.of(1), 1);
    due("way", x.way(0, 1), 1);
    due("no third node", x.of(2), UNKNOWN);
    x.value(2, 1);
    due("load", x.load(0, false), 4);
    due("column", x.column(0), 100);
    due("a smaller one takes its place", x.load(3, false), 1);
    due("arcs", x.count(2), 0);
    due("holes", x.holes(), 0);
    due("node", x.node(0), NONE);
  }

  private static void refused() {
    promise = 10;
    ObjectLoads x = of(BROKEN, BRIDGE, POINT);
    due("none yet", x.refused(0), NONE);
    due("OUTSIDE is ahead", x.refused(3), OUTSIDE);
    due("OUTSIDE is ahead", x.refused(-1), OUTSIDE);
    x.value(0, 0);
    x.next(2, 0);
    x.load(2, true);
    due("the thing", x.refused(0), 0);
    due("no other one", x.refused(1), NONE);
    due("the cause", x.refused(2), 4);
    due("OUTSIDE", x.refused(3), OUTSIDE);
    due("STATE changes nothing", x.load(1, false), STATE);
    due("UNKNOWN changes nothing", x.load(9, false), UNKNOWN);
    due("the cause", x.refused(2), 4);
    x.value(0, 1);
    due("telling changes nothing", x.tells(0, 1), 100);
    due("the thing", x.refused(0), 0);
    due("a load that ends well", x.load(2, false), 2);
    for (int what = 0; what <= 2; what++) {
      due("it did not", x.refused(what), NONE);
    }
    x.key(2, 100);
    x.load(2, true);
    due("the thing", x.refused(0), 0);
    due("the other one", x.refused(1), 2);
    due("DOUBLE", x.refused(2), 6);
    x.next(0, 1);
    x.load(0, false);
    due("the latest one", x.refused(2), 3);
    due("no other one any more", x.refused(1), NONE);
  }

  private static void node() {
    promise = 11;
    ObjectLoads x = of(POINT, BRIDGE, CITY, POINT);
    x.place(2, 0, 1);
    x.place(2, 4, 0);
    x.place(1, 0, 2);
    x.place(1, 1, 2);
    x.load(2, false);
    due("the root", x.node(2), 0);
    due("a node", x.node(0), 1);
    due("a bridge", x.node(1), NONE);
    due("one that was not found", x.node(3), NONE);
    due("unknown", x.node(4), UNKNOWN);
    due("unknown", x.node(-1), UNKNOWN);
    x.thing(POINT, 0, 0);
    due("a later thing", x.node(4), NONE);
  }

  private static void of() {
    promise = 12;
    ObjectLoads x = of(POINT, POINT, POINT);
    x.next(2, 0);
    x.load(2, false);
    due("node 0", x.of(0), 2);
    due("node 1", x.of(1), 0);
    due("node 2", x.of(2), UNKNOWN);
    due("node -1", x.of(-1), UNKNOWN);
    due("node MAX", x.of(MAX), UNKNOWN);
  }

  private static void column() {
    promise = 13;
    int[] values = {0, 2, 0, 33, 9, 5, 6};
    for (int sort = POINT; sort <= EMPTY; sort++) {
      ObjectLoads x = oneOfEach();
      if (sort != BRIDGE) {
        x.load(sort, false);
        due("sort " + sort, x.column(0), values[sort]);
        x.value(sort, 77);
        due("it had told it", x.column(0), values[sort]);
      }
    }
    ObjectLoads x = of(CITY, MASKED, POINT);
    x.place(0, 0, 1);
    x.place(0, 1, 2);
    x.value(0, MAX);
    x.value(1, 1 << 30);
    x.value(2, MIN);
    x.load(0, false);
    due("wraps", x.column(0), -2);
    due("wraps", x.column(1), MIN + 1);
    due("any number", x.column(2), MIN);
    due("unknown", x.column(3), UNKNOWN);
    due("unknown", x.column(-1), UNKNOWN);
  }

  private static void arcs() {
    promise = 14;
    ObjectLoads x = of(CITY, POINT, SHORT, MASKED);
    x.place(0, 0, 1);
    x.place(0, 2, 2);
    x.place(0, 4, 1);
    x.place(0, 5, 3);
    x.place(3, 1, 3);
    x.place(2, 1, 0);
    x.load(0, false);
    due("a CITY", x.arcs(0), 4);
    due("a POINT with none", x.arcs(1), 0);
    due("a SHORT", x.arcs(2), 1);
    due("a MASKED", x.arcs(3), 1);
    due("unknown", x.arcs(4), UNKNOWN);
    due("unknown", x.arcs(-1), UNKNOWN);
    x.place(0, 0, NONE);
    due("as it was loaded", x.arcs(0), 4);
  }

  private static void arc() {
    promise = 15;
    ObjectLoads x = of(CITY, POINT, BRIDGE, CITY);
    x.place(0, 0, 3);
    x.place(0, 3, 2);
    x.place(0, 5, 1);
    x.place(2, 0, 0);
    x.place(2, 1, 1);
    x.place(3, 1, 2);
    x.value(2, MIN);
    due("load", x.load(0, false), 3);
    int[][] due = {{1, 1, 0}, {2, MIN, 1}, {2, 1, 0}};
    for (int k = 0; k < 3; k++) {
      for (int what = 0; what < 3; what++) {
        due("arc " + k + " " + what, x.arc(0, k, what), due[k][what]);
      }
    }
    due("from the other side", x.arc(1, 0, 0), 0);
    due("its weight", x.arc(1, 0, 1), MIN);
    x.value(2, 3);
    due("as it was loaded", x.arc(0, 1, 1), MIN);
    due("no such arc", x.arc(0, 3, 0), UNKNOWN);
    due("no such arc", x.arc(0, -1, 0), UNKNOWN);
    due("no such arc", x.arc(1, 1, 0), UNKNOWN);
    due("no such arc", x.arc(2, 0, 0), UNKNOWN);
    due("no such node", x.arc(3, 0, 0), UNKNOWN);
    due("no such node", x.arc(-1, 0, 0), UNKNOWN);
    due("OUTSIDE", x.arc(0, 0, 3), OUTSIDE);
    due("OUTSIDE", x.arc(0, 0, -1), OUTSIDE);
    due("UNKNOWN is ahead", x.arc(0, 3, 3), UNKNOWN);
    due("UNKNOWN is ahead", x.arc(3, 0, 3), UNKNOWN);
  }

  private static void way() {
    promise = 16;
    ObjectLoads x = of(CITY, POINT, POINT, POINT, POINT, BRIDGE);
    x.place(0, 0, 1);
    x.next(1, 2);
    x.next(2, 3);
    x.next(3, 4);
    due("load", x.load(0, false), 5);
    due("one by one", x.way(0, 4), 4);
    due("nothing is left of the way before", x.way(4, 2), NONE);
    due("not back", x.way(4, 0), NONE);
    due("to itself", x.way(4, 4), 0);
    due("in the middle", x.way(1, 3), 2);
    x.place(0, 5, 3);
    x.next(4, 1);
    x.load(0, false);
    due("the shorter one", x.way(0, x.node(4)), 2);
    due("round", x.way(x.node(4), x.node(3)), 3);
    x.place(0, 3, 5);
    x.place(5, 0, 0);
    x.place(5, 1, 4);
    x.value(5, 1000);
    x.load(0, false);
    due("through a bridge, whatever its weight", x.way(0, x.node(4)), 1);
    due("unknown", x.way(0, 5), UNKNOWN);
    due("unknown", x.way(5, 0), UNKNOWN);
    due("unknown", x.way(-1, 0), UNKNOWN);
    due("unknown", x.way(0, MIN), UNKNOWN);
  }

  private static void fullGraph() {
    promise = 9;
    ObjectLoads x = new ObjectLoads();
    for (int i = 0; i < 40; i++) {
      x.thing(CITY, i, i);
    }
    for (int i = 0; i < 40; i++) {
      for (int p = 0; p < 6; p++) {
        x.place(i, p, (i + p) % 40);
      }
    }
    due("40 nodes", x.load(0, true), 40);
    due("240 arcs", x.count(2), 240);
    due("no holes", x.holes(), 0);
    due("the last arc", x.arc(39, 5, 0), 4);
    due("the farthest way", x.way(0, 39), 8);
    due("once more", x.load(1, false), 40);
    due("240 arcs", x.count(2), 240);
    ObjectLoads chain = new ObjectLoads();
    for (int i = 0; i < 40; i++) {
      chain.thing(POINT, i, i);
      if (i > 0) {
        chain.next(i - 1, i);
      }
    }
    due("a chain", chain.load(0, true), 40);
    due("its whole way", chain.way(0, 39), 39);
    chain.key(39, 0);
    due("a double at its end", chain.load(0, true), DOUBLE);
    due("the other one", chain.refused(1), 0);
  }

  private static void holes() {
    promise = 17;
    ObjectLoads x = of(CITY, MASKED, SHORT, POINT, BRIDGE, CITY);
    due("nothing loaded", x.holes(), 0);
    x.load(0, false);
    due("a CITY", x.holes(), 6);
    x.load(1, false);
    due("a MASKED", x.holes(), 6);
    x.load(2, false);
    due("a SHORT", x.holes(), 1);
    x.load(3, false);
    due("a POINT has none", x.holes(), 0);
    x.place(2, 1, 3);
    x.load(2, false);
    due("other places of a SHORT", x.holes(), 0);
    x.place(0, 0, 1);
    x.place(0, 1, 2);
    x.place(0, 2, 1);
    x.load(0, false);
    due("all of them", x.holes(), 9);
    x.place(0, 3, 4);
    due("a load that fails", x.load(0, false), NULL);
    due("as it was", x.holes(), 9);
    x.place(4, 0, 3);
    x.load(0, false);
    due("a bridge's places are none", x.holes(), 8);
  }

  private static void asked() {
    promise = 18;
    ObjectLoads x = of(CITY, BRIDGE, POINT, BROKEN, EMPTY, MASKED);
    due("not yet", x.asked(0), 0);
    due("unknown", x.asked(6), UNKNOWN);
    due("unknown", x.asked(-1), UNKNOWN);
    x.load(2, false);
    due("by identity", x.asked(2), 2);
    x.load(2, true);
    due("by keys", x.asked(2), 5);
    x.place(0, 0, 1);
    x.place(0, 1, 2);
    x.load(0, true);
    due("the bridge failed at its end", x.asked(1), 1);
    due("the city", x.asked(0), 3);
    due("the point was not asked", x.asked(2), 5);
    x.place(1, 0, 2);
    x.load(0, true);
    due("the bridge: its end, its value", x.asked(1), 3);
    due("the city", x.asked(0), 6);
    due("the point, once though found twice", x.asked(2), 8);
    x.place(0, 2, 1);
    x.load(0, false);
    due("a bridge that is met twice", x.asked(1), 7);
    x.value(3, 0);
    x.load(3, false);
    due("what failed counts: a value", x.asked(3), 1);
    x.load(3, true);
    due("a key and a value", x.asked(3), 3);
    x.load(4, true);
    due("what failed counts: a key", x.asked(4), 1);
    x.place(5, 0, 1);
    x.load(5, true);
    due("what failed counts: links", x.asked(5), 3);
    for (int what = 0; what <= 2; what++) {
      x.tells(5, what);
    }
    due("telling counts not", x.asked(5), 3);
    x.load(1, false);
    due("STATE counts not", x.asked(1), 7);
    x.key(2, 100);
    x.load(0, true);
    due("a double: its key alone", x.asked(2), 11);
  }

  private static void tells() {
    promise = 19;
    ObjectLoads x = oneOfEach();
    int[] values = {0, 2, 2, 33, 9, 5, 6};
    int[] links = {0, 6, 2, 0, 6, 1, 0};
    for (int sort = POINT; sort <= EMPTY; sort++) {
      due("key of " + sort, x.tells(sort, 0), 10 * sort);
      due("value of " + sort, x.tells(sort, 1), values[sort]);
      due("links of " + sort, x.tells(sort, 2), links[sort]);
      due("3 of " + sort, x.tells(sort, 3), OUTSIDE);
      due("-1 of " + sort, x.tells(sort, -1), OUTSIDE);
    }
    due("unknown", x.tells(7, 0), UNKNOWN);
    due("UNKNOWN is ahead", x.tells(-1, 3), UNKNOWN);
    x.hold(EMPTY, false);
    due("NULL", x.tells(EMPTY, 0), NULL);
    due("its value", x.tells(EMPTY, 1), 6);
    for (int sort : new int[] {POINT, BROKEN, EMPTY}) {
      x.next(sort, CITY);
      due("one link of " + sort, x.tells(sort, 2), 1);
      x.next(sort, BRIDGE);
      due("CAST of " + sort, x.tells(sort, 2), CAST);
    }
    x.place(CITY, 0, BRIDGE);
    due("a CITY with a bridge", x.tells(CITY, 2), 6);
    x.place(MASKED, 5, BRIDGE);
    due("a MASKED with a bridge", x.tells(MASKED, 2), CAST);
    x.place(SHORT, 5, BRIDGE);
    due("a SHORT with a bridge", x.tells(SHORT, 2), 1);
    x.value(SHORT, 6);
    due("INDEX", x.tells(SHORT, 2), INDEX);
    due("its value", x.tells(SHORT, 1), 6);
    x.next(BRIDGE, BRIDGE);
    x.place(BRIDGE, 0, BRIDGE);
    due("a BRIDGE tells 2 in any case", x.tells(BRIDGE, 2), 2);
    int[][] shares = {{0, ARITHMETIC}, {-3, -33}, {-101, 0}, {100, 1}, {MIN, 0}, {-1, -100}};
    for (int[] share : shares) {
      x.value(BROKEN, share[0]);
      due("100 / " + share[0], x.tells(BROKEN, 1), share[1]);
    }
    x.value(CITY, MIN);
    due("wraps", x.tells(CITY, 1), 0);
    x.value(MASKED, MAX);
    due("wraps", x.tells(MASKED, 1), -1);
  }

  private static void is() {
    promise = 20;
    ObjectLoads x = oneOfEach();
    int[][] families = {{1, 0, 0}, {1, 1, 0}, {0, 0, 1}, {1, 0, 0}, {1, 1, 0}, {1, 1, 0}, {1, 0, 0}};
    for (int sort = POINT; sort <= EMPTY; sort++) {
      for (int family = 0; family <= 2; family++) {
        due("sort " + sort + " family " + family, x.is(sort, family), families[sort][family]);
      }
      due("family 3", x.is(sort, 3), OUTSIDE);
      due("family -1", x.is(sort, -1), OUTSIDE);
    }
    due("unknown", x.is(7, 0), UNKNOWN);
    due("UNKNOWN is ahead", x.is(-1, 3), UNKNOWN);
  }

  private static void count() {
    promise = 21;
    ObjectLoads x = of(POINT, POINT, POINT, BRIDGE, BROKEN);
    due("things", x.count(0), 5);
    due("no nodes before a load", x.count(1), 0);
    x.next(0, 1);
    x.next(1, 0);
    x.load(0, false);
    due("nodes that are loaded", x.count(1), 2);
    due("arcs", x.count(2), 2);
    due("no cause", x.count(3), 0);
    x.value(4, 0);
    x.load(4, false);
    x.load(4, true);
    due("causes", x.count(3), 2);
    x.key(1, 100);
    x.load(0, true);
    due("DOUBLE, too", x.count(3), 3);
    x.load(3, false);
    x.load(5, false);
    x.load(0, false);
    due("others not", x.count(3), 3);
    due("4", x.count(4), OUTSIDE);
    due("-1", x.count(-1), OUTSIDE);
    due("MIN", x.count(MIN), OUTSIDE);
  }

  private static void clear() {
    promise = 22;
    ObjectLoads x = new ObjectLoads();
    due("nothing", x.clear(), 0);
    for (int i = 0; i < 40; i++) {
      x.thing(CITY, i, i);
    }
    x.hold(0, true);
    x.next(0, 1);
    x.place(0, 0, 1);
    x.load(0, true);
    x.key(1, 0);
    x.load(0, true);
    due("all", x.clear(), 40);
    due("again", x.clear(), 0);
    for (int what = 0; what <= 3; what++) {
      due("count", x.count(what), 0);
    }
    for (int what = 0; what <= 2; what++) {
      due("refused", x.refused(what), NONE);
    }
    due("holes", x.holes(), 0);
    due("thing", x.asked(0), UNKNOWN);
    due("node", x.of(0), UNKNOWN);
    due("thing", x.thing(CITY, 3, 4), 0);
    due("not held", x.hold(0, false), 0);
    due("not asked", x.asked(0), 0);
    due("no node", x.node(0), NONE);
    due("other", x.place(0, 0, 1), UNKNOWN);
    due("load", x.load(0, true), 1);
    due("no arcs", x.arcs(0), 0);
    due("holes", x.holes(), 6);
  }
}
