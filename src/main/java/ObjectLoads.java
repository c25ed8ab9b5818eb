import java.util.Arrays;

/** Graphs loaded from things of seven sorts, each of which tells its key, its value and its links in its own way. */
public final class ObjectLoads {
    public static final int UNKNOWN = -1000001, OUTSIDE = -1000002, STATE = -1000003, ROOM = -1000004, NONE = -1000009;

    /** What failed is answered by this number less its cause. */
    private static final int FAILED = -1000010;

    private static final int MOST_THINGS = 40;
    private static final int PLACES = 6;
    private static final int MOST_ARCS = MOST_THINGS * PLACES;

    private static final int POINT = 0, CITY = 1, BRIDGE = 2, BROKEN = 3, MASKED = 4, SHORT = 5, EMPTY = 6;

    /** The causes; FINE is that there is none. */
    private static final int FINE = 0, NULL = 1, INDEX = 2, CAST = 3, ARITHMETIC = 4, STORE = 5, DOUBLE = 6;

    private final Thing[] things = new Thing[MOST_THINGS];
    private int thingCount = 0;

    /** Two graphs that change places when a load succeeds, so that one that fails leaves what is loaded untouched. */
    private Graph loaded = new Graph();
    private Graph building = new Graph();

    /** How the latest load ended. */
    private int refusedThing = NONE;
    private int refusedOther = NONE;
    private int refusedCause = FINE;
    private int failedLoads = 0;

    public ObjectLoads() {
    }

    public int thing(int sort, int key, int v) {
        if (sort < POINT || sort > EMPTY) {
            return OUTSIDE;
        }
        if (thingCount >= MOST_THINGS) {
            return ROOM;
        }
        int number = thingCount;
        things[number] = newThing(sort, number, key, v);
        thingCount++;
        return number;
    }

    public int value(int thing, int v) {
        Thing known = known(thing);
        if (known == null) {
            return UNKNOWN;
        }
        int before = known.v;
        known.v = v;
        return before;
    }

    public int key(int thing, int k) {
        Thing known = known(thing);
        if (known == null) {
            return UNKNOWN;
        }
        int before = known.key;
        known.key = k;
        return before;
    }

    public int next(int thing, int other) {
        Thing known = known(thing);
        if (known == null || !isThingOrNone(other)) {
            return UNKNOWN;
        }
        known.next = known(other);
        return 1;
    }

    public int place(int thing, int i, int other) {
        Thing known = known(thing);
        if (known == null || !isThingOrNone(other)) {
            return UNKNOWN;
        }
        if (!isPlace(i)) {
            return OUTSIDE;
        }
        known.places[i] = known(other);
        return 1;
    }

    public int hold(int thing, boolean on) {
        Thing known = known(thing);
        if (known == null) {
            return UNKNOWN;
        }
        boolean before = known.held;
        known.held = on;
        return asNumber(before);
    }

    public int copy(int thing, int a, int other, int b, int n) {
        Thing source = known(thing);
        Thing target = known(other);
        if (source == null || target == null) {
            return UNKNOWN;
        }
        if (!isStretch(a, n) || !isStretch(b, n)) {
            return FAILED - INDEX;
        }
        int storable = target instanceof Masked ? countUpToBridge(source.places, a, n) : n;
        copyStretch(source.places, a, target.places, b, storable);
        return storable < n ? FAILED - STORE : 1;
    }

    public int load(int root, boolean byKeys) {
        Thing known = known(root);
        if (known == null) {
            return UNKNOWN;
        }
        if (!(known instanceof Node rootNode)) {
            return STATE;
        }
        endLoad(NONE, NONE, FINE);
        if (!build(rootNode, byKeys)) {
            failedLoads++;
            return FAILED - refusedCause;
        }
        Graph replaced = loaded;
        loaded = building;
        building = replaced;
        return loaded.nodeCount;
    }

    public int refused(int what) {
        if (what < 0 || what > 2) {
            return OUTSIDE;
        }
        if (refusedCause == FINE) {
            return NONE;
        }
        switch (what) {
            case 0:
                return refusedThing;
            case 1:
                return refusedOther;
            default:
                return refusedCause;
        }
    }

    public int node(int thing) {
        return isThing(thing) ? loaded.nodeOfThing[thing] : UNKNOWN;
    }

    public int of(int node) {
        return loaded.hasNode(node) ? loaded.nodes[node].number : UNKNOWN;
    }

    public int column(int node) {
        return loaded.hasNode(node) ? loaded.values[node] : UNKNOWN;
    }

    public int arcs(int node) {
        return loaded.hasNode(node) ? loaded.arcsOf(node) : UNKNOWN;
    }

    public int arc(int node, int k, int what) {
        if (!loaded.hasNode(node) || k < 0 || k >= loaded.arcsOf(node)) {
            return UNKNOWN;
        }
        int arc = loaded.firstArc[node] + k;
        switch (what) {
            case 0:
                return loaded.arcEnds[arc];
            case 1:
                return loaded.arcWeights[arc];
            case 2:
                return asNumber(loaded.arcBridged[arc]);
            default:
                return OUTSIDE;
        }
    }

    public int way(int from, int to) {
        if (!loaded.hasNode(from) || !loaded.hasNode(to)) {
            return UNKNOWN;
        }
        return loaded.shortestWay(from, to);
    }

    public int holes() {
        return loaded.holeCount;
    }

    public int asked(int thing) {
        Thing known = known(thing);
        return known == null ? UNKNOWN : known.timesAsked;
    }

    public int tells(int thing, int what) {
        Thing known = known(thing);
        if (known == null) {
            return UNKNOWN;
        }
        switch (what) {
            case 0:
                return toldOrFailed(known.toldKey(), known.keyCause());
            case 1:
                return toldOrFailed(known.toldValue(), known.valueCause());
            case 2:
                return toldOrFailed(known.linkCount(), known.linksCause());
            default:
                return OUTSIDE;
        }
    }

    public int is(int thing, int family) {
        Thing known = known(thing);
        if (known == null) {
            return UNKNOWN;
        }
        switch (family) {
            case 0:
                return asNumber(known instanceof Node);
            case 1:
                return asNumber(known instanceof City);
            case 2:
                return asNumber(known instanceof Bridge);
            default:
                return OUTSIDE;
        }
    }

    public int count(int what) {
        switch (what) {
            case 0:
                return thingCount;
            case 1:
                return loaded.nodeCount;
            case 2:
                return loaded.arcCount;
            case 3:
                return failedLoads;
            default:
                return OUTSIDE;
        }
    }

    public int clear() {
        int before = thingCount;
        thingCount = 0;
        loaded.makeEmpty();
        endLoad(NONE, NONE, FINE);
        failedLoads = 0;
        return before;
    }

    private static Thing newThing(int sort, int number, int key, int v) {
        switch (sort) {
            case CITY:
                return new City(number, key, v);
            case BRIDGE:
                return new Bridge(number, key, v);
            case BROKEN:
                return new Broken(number, key, v);
            case MASKED:
                return new Masked(number, key, v);
            case SHORT:
                return new ShortCity(number, key, v);
            case EMPTY:
                return new Empty(number, key, v);
            default:
                return new Point(number, key, v);
        }
    }

    private boolean isThing(int number) {
        return number >= 0 && number < thingCount;
    }

    private boolean isThingOrNone(int number) {
        return number == NONE || isThing(number);
    }

    /** The thing of a number, or null where there is none. */
    private Thing known(int number) {
        return isThing(number) ? things[number] : null;
    }

    private static boolean isPlace(int i) {
        return i >= 0 && i < PLACES;
    }

    /** Whether n places from start on are all there; start may stand behind the last place if n is 0. */
    private static boolean isStretch(int start, int n) {
        return start >= 0 && n >= 0 && n <= PLACES && start <= PLACES - n;
    }

    private static int asNumber(boolean yes) {
        return yes ? 1 : 0;
    }

    private static int toldOrFailed(int told, int cause) {
        return cause == FINE ? told : FAILED - cause;
    }

    private static int countUpToBridge(Thing[] places, int start, int n) {
        for (int i = 0; i < n; i++) {
            if (places[start + i] instanceof Bridge) {
                return i;
            }
        }
        return n;
    }

    /** Both rows may be the same one: the direction keeps what is still to be copied from being overwritten. */
    private static void copyStretch(Thing[] source, int a, Thing[] target, int b, int n) {
        if (a >= b) {
            for (int i = 0; i < n; i++) {
                target[b + i] = source[a + i];
            }
        } else {
            for (int i = n - 1; i >= 0; i--) {
                target[b + i] = source[a + i];
            }
        }
    }

    private void endLoad(int thing, int other, int cause) {
        refusedThing = thing;
        refusedOther = other;
        refusedCause = cause;
    }

    /** Ends the load by what a thing failed by; the answer is that of the asking that failed. */
    private boolean failed(Thing thing, int cause) {
        endLoad(thing.number, NONE, cause);
        return false;
    }

    private boolean build(Node root, boolean byKeys) {
        building.makeEmpty();
        building.findNode(root);
        for (int n = 0; n < MOST_THINGS && n < building.nodeCount; n++) {
            Node node = building.nodes[n];
            boolean told = (!byKeys || askKey(n, node)) && askValue(n, node) && askLinks(n, node);
            if (!told) {
                return false;
            }
        }
        return true;
    }

    private boolean askKey(int n, Node node) {
        node.timesAsked++;
        int cause = node.keyCause();
        if (cause != FINE) {
            return failed(node, cause);
        }
        int key = node.toldKey();
        for (int m = 0; m < n; m++) {
            Node other = building.nodes[m];
            if (other.toldKey() == key) {
                endLoad(node.number, other.number, DOUBLE);
                return false;
            }
        }
        return true;
    }

    private boolean askValue(int n, Node node) {
        node.timesAsked++;
        int cause = node.valueCause();
        if (cause != FINE) {
            return failed(node, cause);
        }
        building.values[n] = node.toldValue();
        return true;
    }

    private boolean askLinks(int n, Node node) {
        node.timesAsked++;
        int cause = node.linksCause();
        if (cause != FINE) {
            return failed(node, cause);
        }
        int links = node.linkCount();
        for (int i = 0; i < links; i++) {
            if (!follow(node, node.link(i))) {
                return false;
            }
        }
        building.endArcsOf(n);
        return true;
    }

    private boolean follow(Node node, Thing link) {
        if (link instanceof Bridge bridge) {
            return cross(node, bridge);
        }
        if (link instanceof Node end) {
            building.addArc(end, 1, false);
        } else {
            building.holeCount++;
        }
        return true;
    }

    private boolean cross(Node node, Bridge bridge) {
        bridge.timesAsked++;
        Thing end = bridge.otherEnd(node);
        if (end == null) {
            return failed(bridge, NULL);
        }
        if (!(end instanceof Node endNode)) {
            return failed(bridge, CAST);
        }
        bridge.timesAsked++;
        building.addArc(endNode, bridge.toldValue(), true);
        return true;
    }

    /** What a thing tells counts only where the cause beside it is FINE. */
    private abstract static class Thing {
        final int number;
        final Thing[] places = new Thing[PLACES];
        int key;
        int v;
        Thing next = null;
        boolean held = false;
        int timesAsked = 0;

        Thing(int number, int key, int v) {
            this.number = number;
            this.key = key;
            this.v = v;
        }

        int keyCause() {
            return FINE;
        }

        int toldKey() {
            return key;
        }

        int valueCause() {
            return FINE;
        }

        int toldValue() {
            return v;
        }

        int linksCause() {
            return FINE;
        }

        /** How many links it tells, holes among them. */
        abstract int linkCount();
    }

    private abstract static class Node extends Thing {
        Node(int number, int key, int v) {
            super(number, key, v);
        }

        /** Link i, or null if it is a hole. */
        abstract Thing link(int i);
    }

    private static class Point extends Node {
        Point(int number, int key, int v) {
            super(number, key, v);
        }

        @Override
        int linksCause() {
            return next instanceof Bridge ? CAST : FINE;
        }

        @Override
        int linkCount() {
            return next == null ? 0 : 1;
        }

        @Override
        Thing link(int i) {
            return next;
        }
    }

    private static final class Broken extends Point {
        Broken(int number, int key, int v) {
            super(number, key, v);
        }

        @Override
        int valueCause() {
            return v == 0 ? ARITHMETIC : FINE;
        }

        @Override
        int toldValue() {
            return v == 0 ? 0 : 100 / v;
        }
    }

    private static final class Empty extends Point {
        Empty(int number, int key, int v) {
            super(number, key, v);
        }

        @Override
        int keyCause() {
            return held ? FINE : NULL;
        }
    }

    private static class City extends Node {
        City(int number, int key, int v) {
            super(number, key, v);
        }

        @Override
        int toldValue() {
            return 2 * v;
        }

        @Override
        int linkCount() {
            return PLACES;
        }

        @Override
        Thing link(int i) {
            return isPlace(i) ? places[i] : null;
        }
    }

    private static final class Masked extends City {
        Masked(int number, int key, int v) {
            super(number, key, v);
        }

        @Override
        int toldValue() {
            return super.toldValue() + 1;
        }

        @Override
        int linksCause() {
            return countUpToBridge(places, 0, PLACES) < PLACES ? CAST : FINE;
        }
    }

    private static final class ShortCity extends City {
        ShortCity(int number, int key, int v) {
            super(number, key, v);
        }

        /** The document doubles V for the sort CITY alone, not for the whole family. */
        @Override
        int toldValue() {
            return v;
        }

        @Override
        int linksCause() {
            return isPlace(v) ? FINE : INDEX;
        }

        @Override
        int linkCount() {
            return 1;
        }

        @Override
        Thing link(int i) {
            return super.link(v);
        }
    }

    private static final class Bridge extends Thing {
        Bridge(int number, int key, int v) {
            super(number, key, v);
        }

        @Override
        int linkCount() {
            return 2;
        }

        /** What it tells for a node: a thing of any sort, or null. */
        Thing otherEnd(Node node) {
            return places[0] == node ? places[1] : places[0];
        }
    }

    /** Nodes and their arcs; the arcs of node n are those from firstArc[n] up to firstArc[n + 1]. */
    private static final class Graph {
        final Node[] nodes = new Node[MOST_THINGS];
        final int[] nodeOfThing = new int[MOST_THINGS];
        final int[] values = new int[MOST_THINGS];
        final int[] firstArc = new int[MOST_THINGS + 1];
        final int[] arcEnds = new int[MOST_ARCS];
        final int[] arcWeights = new int[MOST_ARCS];
        final boolean[] arcBridged = new boolean[MOST_ARCS];
        final int[] steps = new int[MOST_THINGS];
        final int[] reached = new int[MOST_THINGS];
        int nodeCount = 0;
        int arcCount = 0;
        int holeCount = 0;

        Graph() {
            Arrays.fill(nodeOfThing, NONE);
        }

        void makeEmpty() {
            Arrays.fill(nodeOfThing, NONE);
            nodeCount = 0;
            arcCount = 0;
            holeCount = 0;
        }

        boolean hasNode(int n) {
            return n >= 0 && n < nodeCount;
        }

        int arcsOf(int n) {
            return firstArc[n + 1] - firstArc[n];
        }

        /** The number of a node, which it gets here if it was not found before. */
        int findNode(Node node) {
            int found = nodeOfThing[node.number];
            if (found == NONE) {
                found = nodeCount;
                nodes[found] = node;
                nodeOfThing[node.number] = found;
                nodeCount++;
            }
            return found;
        }

        void addArc(Node end, int weight, boolean bridged) {
            arcEnds[arcCount] = findNode(end);
            arcWeights[arcCount] = weight;
            arcBridged[arcCount] = bridged;
            arcCount++;
        }

        void endArcsOf(int n) {
            firstArc[n + 1] = arcCount;
        }

        int shortestWay(int from, int to) {
            Arrays.fill(steps, NONE);
            steps[from] = 0;
            reached[0] = from;
            int reachedCount = 1;
            for (int r = 0; r < MOST_THINGS && r < reachedCount; r++) {
                int n = reached[r];
                for (int arc = firstArc[n]; arc < firstArc[n + 1]; arc++) {
                    int end = arcEnds[arc];
                    if (steps[end] == NONE) {
                        steps[end] = steps[n] + 1;
                        reached[reachedCount] = end;
                        reachedCount++;
                    }
                }
            }
            return steps[to];
        }
    }
}
