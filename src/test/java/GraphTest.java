/** Promises 1 and 6 to 11: a new object, node, arc, weigh, about, weight, clear; and 41, total. */
public final class GraphTest {
    private static final long BIG = 1L << 61;

    private static void newObject() {
        RoutePlanner p = new RoutePlanner();
        Check.due("NONE", -1, RoutePlanner.NONE);
        for (int what = 0; what <= 8; what++) {
            Check.due("total(" + what + ") of a new object", 0, p.total(what));
        }
        Check.due("total(-1)", -1, p.total(-1));
        Check.due("total(9)", -1, p.total(9));
        Check.due("ready", 0, p.ready());
        Check.due("told", -1, p.told(2));
        Check.due("inconsistent", -1, p.inconsistent());
        Check.due("clear", 0, p.clear());
        Check.dueThrow("search(0)", IndexOutOfBoundsException.class, () -> p.search(0));
    }

    private static void nodes() {
        RoutePlanner p = new RoutePlanner();
        Check.due("node", 0, p.node(-1000000, 1000000));
        Check.due("x", -1000000, p.about(0, 2));
        Check.due("y", 1000000, p.about(0, 3));
        int[][] beyond = {{-1000001, 0}, {1000001, 0}, {0, -1000001}, {0, 1000001}, {Integer.MIN_VALUE, 0}};
        for (int[] xy : beyond) {
            Check.dueThrow("node beyond", IllegalArgumentException.class, () -> p.node(xy[0], xy[1]));
        }
        Check.due("nothing came", 1, p.total(0));
        for (int v = 1; v < 24; v++) {
            Check.due("node", v, p.node(v, -v));
        }
        Check.dueThrow("a 25th node", IllegalStateException.class, () -> p.node(0, 0));
        Check.dueThrow("a 25th node beyond", IllegalArgumentException.class, () -> p.node(0, 1000001));
        Check.due("nodes", 24, p.total(0));
    }

    private static void arcs() {
        RoutePlanner p = new RoutePlanner();
        p.node(0, 0);
        p.node(1, 1);
        Check.due("arc", 0, p.arc(0, 1, 0));
        Check.due("the same again", 1, p.arc(0, 1, BIG));
        Check.due("to itself", 2, p.arc(1, 1, 5));
        Check.due("arcs", 3, p.total(1));
        Check.dueThrow("from -1", IndexOutOfBoundsException.class, () -> p.arc(-1, 0, -1));
        Check.dueThrow("to 2", IndexOutOfBoundsException.class, () -> p.arc(0, 2, -1));
        Check.dueThrow("weight -1", IllegalArgumentException.class, () -> p.arc(0, 1, -1));
        Check.dueThrow("weight 2^61 + 1", IllegalArgumentException.class, () -> p.arc(0, 1, BIG + 1));
        Check.dueThrow("sum 2^62", ArithmeticException.class, () -> p.arc(0, 1, BIG - 5));
        Check.due("sum 2^62 - 1", 3, p.arc(0, 1, BIG - 6));
        Check.dueThrow("sum 2^62 by 1", ArithmeticException.class, () -> p.arc(0, 1, 1));
        for (int a = 4; a < 300; a++) {
            Check.due("arc", a, p.arc(1, 0, 0));
        }
        Check.dueThrow("a 301st arc", IllegalStateException.class, () -> p.arc(0, 1, 1));
        Check.dueThrow("a 301st arc of weight -1", IllegalArgumentException.class, () -> p.arc(0, 1, -1));
        Check.due("arcs", 300, p.total(1));
    }

    private static void weighing() {
        RoutePlanner p = new RoutePlanner();
        p.node(0, 0);
        p.node(1, 1);
        p.arc(0, 1, 7);
        p.arc(0, 1, BIG);
        p.prepare();
        p.search(0);
        p.query(0, 1);
        Check.due("weigh as it was", 7, p.weigh(0, 7));
        Check.due("hierarchy stays", 1, p.ready());
        Check.due("search stays", 2, p.total(8));
        Check.due("query stays", 7, p.found());
        Check.dueThrow("sum 2^62", ArithmeticException.class, () -> p.weigh(0, BIG));
        Check.dueThrow("weight beyond", IllegalArgumentException.class, () -> p.weigh(0, BIG + 1));
        Check.dueThrow("weight below 0", IllegalArgumentException.class, () -> p.weigh(1, -1));
        Check.dueThrow("arc 2", IndexOutOfBoundsException.class, () -> p.weigh(2, -1));
        Check.dueThrow("arc -1", IndexOutOfBoundsException.class, () -> p.weigh(-1, 1));
        Check.due("weight stays", 7, p.weight(0));
        Check.due("hierarchy stays after what was refused", 1, p.ready());
        Check.due("weigh to the most", 7, p.weigh(0, BIG - 1));
        Check.due("hierarchy is gone", 0, p.ready());
        Check.due("search is forgotten", 0, p.total(8));
        Check.due("query is forgotten", -1, p.found());
        Check.due("weight", BIG - 1, p.weight(0));
        Check.due("distance by it", BIG - 1, p.distance(0, 1));
        Check.due("weigh back", BIG - 1, p.weigh(0, 0));
        Check.due("the sum fell", 2, p.arc(1, 1, BIG - 1));
    }

    private static void aboutAndWeight() {
        RoutePlanner p = new RoutePlanner();
        p.node(3, 4);
        p.node(-5, 6);
        p.node(0, 0);
        p.arc(0, 1, 2);
        p.arc(1, 0, 3);
        p.arc(1, 2, 4);
        p.arc(1, 1, 5);
        int[][] due = {{2, 0, 1}, {2, 1, 2}, {1, 2, -5}, {1, 3, 6}, {1, 4, 3}, {1, 5, 2}, {0, 4, 1}, {2, 4, 0},
            {2, 5, 1}, {0, 6, -1}, {4, 0, -1}, {-1, 1, -1}, {3, 2, -1}, {3, 4, -1}, {-1, 3, -1}, {0, 7, -1},
            {0, -1, -1}, {3, 0, 1}};
        for (int[] d : due) {
            Check.due("about(" + d[0] + ", " + d[1] + ")", d[2], p.about(d[0], d[1]));
        }
        for (int v = 2; v >= 0; v--) {
            p.order(v);
        }
        p.prepareTold();
        Check.due("rank of 0", 2, p.about(0, 6));
        Check.due("rank of 2", 0, p.about(2, 6));
        Check.due("rank of 3", -1, p.about(3, 6));
        p.weigh(0, 9);
        Check.due("rank without a hierarchy", -1, p.about(0, 6));
        Check.due("weight", 4, p.weight(2));
        Check.due("weight of no arc", -1, p.weight(4));
        Check.due("weight of arc -1", -1, p.weight(-1));
    }

    private static void clearing() {
        RoutePlanner p = new RoutePlanner();
        p.factors(0, 2, 0);
        for (int v = 0; v < 4; v++) {
            p.node(v, 0);
        }
        p.arc(0, 1, BIG);
        p.potential(2, 1L << 60);
        p.landmark(1);
        p.order(3);
        p.prepare();
        p.query(0, 1);
        p.search(0);
        p.feed(0x20202020, 0x20202020, 0x20202020, 0x20202020, 0x20202020);
        Check.due("clear", 4, p.clear());
        int[] totals = {0, 0, 20, 1, 0, 0, 0, 0, 0};
        for (int what = 0; what < totals.length; what++) {
            Check.due("total(" + what + ") after clear()", totals[what], p.total(what));
        }
        Check.due("ready", 0, p.ready());
        Check.due("settled", -1, p.settled(0));
        Check.due("told", -1, p.told(2));
        Check.due("clear again", 0, p.clear());
        for (int v = 0; v < 4; v++) {
            p.node(v, 0);
        }
        Check.due("the potentials are 0", 0, p.potential(2, 0));
        Check.due("the sum is 0", 0, p.arc(0, 1, BIG));
        Check.due("the sum is 2^61", 1, p.arc(0, 1, BIG - 1));
        for (int v = 3; v >= 0; v--) {
            p.order(v);
        }
        p.prepareTold();
        Check.due("3 goes first", 3, p.ranked(0));
        p.clear();
        starOf(p);
        p.remake();
        Check.due("the latest ranks are gone", 0, p.ranked(0));
        p.prepare();
        Check.due("the factors stay", 0, p.ranked(0));
    }

    /** Node 0 with a road to each of 1, 2, 3. */
    static void starOf(RoutePlanner p) {
        for (int v = 0; v < 4; v++) {
            p.node(v, 0);
        }
        for (int v = 1; v < 4; v++) {
            p.arc(0, v, 1);
            p.arc(v, 0, 1);
        }
    }

    private static void totals() {
        RoutePlanner p = new RoutePlanner();
        starOf(p);
        p.landmark(2);
        p.landmark(3);
        for (int v = 0; v < 4; v++) {
            p.order(v);
        }
        Check.due("order", 4, p.total(5));
        p.prepareTold();
        p.order(1);
        p.search(1);
        p.feed(0, 0, 0, 0, 0);
        int[] totals = {4, 6, 20, 1, 2, 1, 12, 6, 4};
        for (int what = 0; what < totals.length; what++) {
            Check.due("total(" + what + ")", totals[what], p.total(what));
        }
        p.both(1, 2);
        Check.due("settled by both", p.both(1, 2), p.total(8));
        p.node(0, 0);
        Check.due("edges without a hierarchy", 0, p.total(6));
        Check.due("shortcuts without a hierarchy", 0, p.total(7));
        Check.due("prepares", 1, p.total(3));
        Check.due("landmarks stay", 2, p.total(4));
        Check.due("the order stays", 1, p.total(5));
    }

    public static void main(String[] args) {
        newObject();
        nodes();
        arcs();
        weighing();
        aboutAndWeight();
        clearing();
        totals();
        Check.finish("GraphTest");
    }
}
