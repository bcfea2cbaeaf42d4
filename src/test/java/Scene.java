/** A planner in the midst of its work, so that a call that must change nothing has much that it could change. */
final class Scene {
    static final long MOST_WEIGHT = 1L << 61;
    static final long MOST_POTENTIAL = 1L << 60;
    static final long SUM_LIMIT = 1L << 62;

    /** Of all weights and potentials together, as far as midst() tells them. */
    static final long SUM = 3 + 3 + 4 + 9 + 20 + 1 + 100 + 1 + 2;

    private static final String GRAPH = "node 0 0\nnode 3 0\nnode 6 0\nnode 6 5\nnode -2 -2\n"
            + "road 0 1 3\narc 1 2 4\narc 2 3 9\narc 0 3 20\narc 3 3 1\narc 4 0 100\n";

    private Scene() {
    }

    /** 5 nodes, 7 arcs, 2 landmarks, 2 nodes of an order, a hierarchy, a query, a search, a fault, a text to be read. */
    static void midst(RoutePlanner p) {
        tellGraph(p);
        work(p);
    }

    static void fullOfNodes(RoutePlanner p) {
        tellGraph(p);
        Check.readText(p, "node 9 9\n".repeat(19));
        work(p);
    }

    static void fullOfArcs(RoutePlanner p) {
        tellGraph(p);
        Check.readText(p, "arc 4 4 0\n" + "road 4 4 0\n".repeat(146));
        work(p);
    }

    /** One arc of weight 0, which is arc 7, and one more of as much as leaves just so much to tell. */
    static void fullOfWeight(RoutePlanner p, long left) {
        tellGraph(p);
        p.arc(4, 4, 0);
        p.arc(4, 4, MOST_WEIGHT);
        p.arc(4, 4, SUM_LIMIT - 1 - MOST_WEIGHT - SUM - left);
        work(p);
    }

    static void fullOfLandmarks(RoutePlanner p) {
        midst(p);
        p.landmark(0);
        p.landmark(4);
    }

    static void fullOfPrepares(RoutePlanner p) {
        tellGraph(p);
        for (int k = 0; k < 23; k++) {
            p.prepare();
        }
        work(p);
    }

    static void withoutHierarchy(RoutePlanner p) {
        midst(p);
        p.weigh(0, 2);
        p.weigh(0, 3);
        p.search(1);
    }

    static void withoutLandmarks(RoutePlanner p) {
        tellGraph(p);
        p.search(1);
    }

    /** The potentials fail by arc 0, by just 1. */
    static void inconsistent(RoutePlanner p) {
        midst(p);
        p.potential(0, 4);
    }

    private static void tellGraph(RoutePlanner p) {
        Check.readText(p, GRAPH);
    }

    private static void work(RoutePlanner p) {
        p.potential(0, 1);
        p.potential(3, -2);
        p.landmark(1);
        p.landmark(3);
        p.order(2);
        p.order(0);
        p.factors(1, 2, 3);
        p.prepare();
        p.query(4, 3);
        p.both(0, 3);
        Check.readText(p, "  x");
        Check.feedText(p, "arc 0 2 5\n");
    }
}
