/** Promises 1, 6 to 11 and 41 at their boundaries. */
public final class GraphBoundsTest {
    private static final int MOST_PLACE = 1000000;

    // ---- 1 a new object

    private static void newObjectHasNothing() {
        RoutePlanner p = new RoutePlanner();
        for (int what = 0; what <= 8; what++) {
            Check.due("1 total(" + what + ")", 0, p.total(what));
        }
        Check.due("1 place", -1, p.place());
        Check.due("1 ready", 0, p.ready());
        Check.due("1 inconsistent", -1, p.inconsistent());
        Check.due("1 found", -1, p.found());
        for (int k = -1; k <= 7; k++) {
            Check.due("1 about(0, " + k + ")", -1, p.about(0, k));
            Check.due("1 told(" + k + ")", -1, p.told(k));
        }
        Check.due("1 weight", -1, p.weight(0));
        Check.due("1 settled", -1, p.settled(0));
        Check.due("1 length", -1, p.length(0));
        Check.due("1 count", -1, p.count(0));
        Check.due("1 distance", -1, p.distance(0, 0));
        Check.due("1 arcs", -1, p.arcs(0, 0));
        Check.due("1 bound", -1, p.bound(0, 0));
        Check.due("1 ranked", -1, p.ranked(0));
        Check.due("1 edge", -1, p.edge(0, false, 0, 0));
        Check.due("1 edgeLength", -1, p.edgeLength(0, true, 0));
        Check.due("1 step", -1, p.step(0));
        Check.due("1 relaxed", -1, p.relaxed(0, 2));
        Check.due("1 reached", -1, p.reached(0, 0));
    }

    private static void newObjectRefuses() {
        Twins.Build nothing = p -> { };
        Twins.refused("1 arc(0, 0, 0)", IndexOutOfBoundsException.class, nothing, p -> p.arc(0, 0, 0));
        Twins.refused("1 weigh(0, 0)", IndexOutOfBoundsException.class, nothing, p -> p.weigh(0, 0));
        Twins.refused("1 search(0)", IndexOutOfBoundsException.class, nothing, p -> p.search(0));
        Twins.refused("1 goal(0, 0)", IndexOutOfBoundsException.class, nothing, p -> p.goal(0, 0));
        Twins.refused("1 both(0, 0)", IndexOutOfBoundsException.class, nothing, p -> p.both(0, 0));
        Twins.refused("1 landmarked(0, 0)", IndexOutOfBoundsException.class, nothing, p -> p.landmarked(0, 0));
        Twins.refused("1 potential(0, 0)", IndexOutOfBoundsException.class, nothing, p -> p.potential(0, 0));
        Twins.refused("1 straight(0, 0)", IndexOutOfBoundsException.class, nothing, p -> p.straight(0, 0));
        Twins.refused("1 landmark(0)", IndexOutOfBoundsException.class, nothing, p -> p.landmark(0));
        Twins.refused("1 order(0)", IndexOutOfBoundsException.class, nothing, p -> p.order(0));
        Twins.refused("1 query(0, 0)", IndexOutOfBoundsException.class, nothing, p -> p.query(0, 0));
        Twins.noChange("1 clear()", 0, nothing, RoutePlanner::clear);
        Twins.noChange("1 read()", 0, nothing, RoutePlanner::read);
        Twins.noChange("1 end(0)", 0, nothing, p -> p.end(0));
    }

    /** Two objects have nothing in common. */
    private static void objectsStandAlone() {
        RoutePlanner p = new RoutePlanner();
        Scene.midst(p);
        RoutePlanner twin = new RoutePlanner();
        Scene.midst(twin);
        RoutePlanner other = new RoutePlanner();
        Scene.fullOfNodes(other);
        other.clear();
        Twins.alike("1 another object", twin, p);
    }

    // ---- 6 node

    private static void placesWithin() {
        int[] within = {-MOST_PLACE, -MOST_PLACE + 1, 0, MOST_PLACE - 1, MOST_PLACE};
        RoutePlanner p = new RoutePlanner();
        for (int k = 0; k < within.length; k++) {
            int other = within[within.length - 1 - k];
            Check.due("6 node at " + within[k], k, p.node(within[k], other));
            Check.due("6 node: x", within[k], p.about(k, 2));
            Check.due("6 node: y", other, p.about(k, 3));
        }
    }

    private static void placesBeyond() {
        int[] beyond = {Integer.MIN_VALUE, -MOST_PLACE - 1, MOST_PLACE + 1, Integer.MAX_VALUE};
        for (int at : beyond) {
            Twins.refused("6 node at x " + at, IllegalArgumentException.class, Scene::midst, p -> p.node(at, 0));
            Twins.refused("6 node at y " + at, IllegalArgumentException.class, Scene::midst, p -> p.node(0, at));
            Twins.refused("6 node at both " + at, IllegalArgumentException.class, Scene::midst, p -> p.node(at, at));
            Twins.refused("6 node at " + at + " when there are 24", IllegalArgumentException.class,
                    Scene::fullOfNodes, p -> p.node(0, at));
        }
    }

    private static void nodesUpToTheLimit() {
        RoutePlanner p = new RoutePlanner();
        for (int v = 0; v < 24; v++) {
            Check.due("6 node", v, p.node(v, -v));
            Check.due("6 node: nodes", v + 1, p.total(0));
        }
        for (int v = 0; v < 24; v++) {
            Check.due("6 node: x of each", v, p.about(v, 2));
            Check.due("6 node: y of each", -v, p.about(v, 3));
        }
        Twins.refused("6 node when there are 24", IllegalStateException.class, Scene::fullOfNodes, q -> q.node(0, 0));
    }

    // ---- 7 arc

    private static void arcsOfNoNode() {
        int[] none = {Integer.MIN_VALUE, -1, 5, 6, 24, Integer.MAX_VALUE};
        for (int v : none) {
            Twins.refused("7 arc from " + v, IndexOutOfBoundsException.class, Scene::midst, p -> p.arc(v, 0, 1));
            Twins.refused("7 arc to " + v, IndexOutOfBoundsException.class, Scene::midst, p -> p.arc(0, v, 1));
            Twins.refused("7 arc to " + v + " of weight -1", IndexOutOfBoundsException.class, Scene::midst,
                    p -> p.arc(0, v, -1));
            Twins.refused("7 arc to " + v + " when there are 300", IndexOutOfBoundsException.class,
                    Scene::fullOfArcs, p -> p.arc(0, v, 1));
        }
        RoutePlanner p = new RoutePlanner();
        Scene.midst(p);
        Check.due("7 arc from the first to the last", 7, p.arc(0, 4, 1));
        Check.due("7 arc from the last to the first", 8, p.arc(4, 0, 1));
        Twins.refused("7 arc to 24 of 24", IndexOutOfBoundsException.class, Scene::fullOfNodes,
                q -> q.arc(23, 24, 1));
    }

    private static void weightsByThemselves() {
        long[] beyond = {Long.MIN_VALUE, -Scene.MOST_WEIGHT, -1, Scene.MOST_WEIGHT + 1, Scene.SUM_LIMIT, Long.MAX_VALUE};
        for (long w : beyond) {
            Twins.refused("7 arc of " + w, IllegalArgumentException.class, Scene::midst, p -> p.arc(0, 1, w));
            Twins.refused("7 arc of " + w + " when there are 300", IllegalArgumentException.class,
                    Scene::fullOfArcs, p -> p.arc(0, 1, w));
            Twins.refused("8 weigh to " + w, IllegalArgumentException.class, Scene::midst, p -> p.weigh(3, w));
        }
        for (long w : new long[] {0, 1, Scene.MOST_WEIGHT - 1, Scene.MOST_WEIGHT}) {
            RoutePlanner p = new RoutePlanner();
            p.node(0, 0);
            Check.due("7 arc of " + w, 0, p.arc(0, 0, w));
            Check.due("10 weight of it", w, p.weight(0));
            Check.due("8 weigh back", w, p.weigh(0, 5));
            Check.due("8 weigh to " + w, 5, p.weigh(0, w));
            Check.due("10 weight of it", w, p.weight(0));
        }
    }

    private static void arcsUpToTheLimit() {
        RoutePlanner p = new RoutePlanner();
        Check.readText(p, "node 0 0\nnode 0 0\n" + "road 0 1 2\n".repeat(149));
        Check.due("7 arc, the 299th", 298, p.arc(1, 1, 7));
        Check.due("7 arc, the 300th", 299, p.arc(1, 0, 9));
        Check.due("7 arc: arcs", 300, p.total(1));
        Check.due("7 arc: the last one's weight", 9, p.weight(299));
        Check.due("7 arc: the last one's end", 0, p.about(299, 1));
        Check.dueThrow("7 arc, the 301st", IllegalStateException.class, () -> p.arc(0, 1, 0));
        Twins.refused("7 arc when there are 300", IllegalStateException.class, Scene::fullOfArcs,
                q -> q.arc(0, 1, 0));
        Twins.refused("7 arc when there are 300, of a sum beyond", IllegalStateException.class, q -> {
            Scene.fullOfArcs(q);
            q.weigh(299, Scene.MOST_WEIGHT);
        }, q -> q.arc(0, 1, Scene.MOST_WEIGHT));
    }

    private static void allTogether() {
        for (long left : new long[] {0, 1, 100}) {
            Twins.Build full = p -> Scene.fullOfWeight(p, left);
            Twins.refused("7 arc: a sum of 2^62", ArithmeticException.class, full, p -> p.arc(0, 1, left + 1));
            Twins.refused("7 arc: a sum beyond", ArithmeticException.class, full,
                    p -> p.arc(0, 1, Scene.MOST_WEIGHT));
            Twins.refused("8 weigh: a sum of 2^62", ArithmeticException.class, full, p -> p.weigh(7, left + 1));
            Twins.refused("8 weigh: of another arc", ArithmeticException.class, full, p -> p.weigh(6, 101 + left));
            Twins.refused("8 weigh: a sum beyond", ArithmeticException.class, full,
                    p -> p.weigh(6, Scene.MOST_WEIGHT));
            RoutePlanner p = new RoutePlanner();
            full.on(p);
            Check.due("7 arc: a sum of 2^62 - 1", 10, p.arc(0, 1, left));
            Check.due("7 arc: of weight 0", 11, p.arc(0, 1, 0));
            Check.dueThrow("7 arc: 1 more", ArithmeticException.class, () -> p.arc(0, 1, 1));
            Check.due("8 weigh: as it was", left, p.weigh(10, left));
            Check.due("8 weigh: less", 100, p.weigh(6, 98));
            Check.dueThrow("7 arc: 3 more", ArithmeticException.class, () -> p.arc(0, 1, 3));
            Check.due("7 arc: 2 more", 12, p.arc(0, 1, 2));
            RoutePlanner q = new RoutePlanner();
            full.on(q);
            Check.due("8 weigh: a sum of 2^62 - 1", 0, q.weigh(7, left));
            Check.dueThrow("8 weigh: 1 more", ArithmeticException.class, () -> q.weigh(7, left + 1));
            Check.due("10 weight stays", left, q.weight(7));
        }
    }

    /** Potentials count without their signs. */
    private static void allTogetherWithPotentials() {
        for (long sign = -1; sign <= 1; sign += 2) {
            RoutePlanner p = new RoutePlanner();
            p.node(0, 0);
            p.potential(0, sign * Scene.MOST_POTENTIAL);
            Check.due("7 arc: 2^61", 0, p.arc(0, 0, Scene.MOST_WEIGHT));
            Check.dueThrow("7 arc: 2^60 more", ArithmeticException.class, () -> p.arc(0, 0, 1L << 60));
            Check.due("7 arc: 2^60 - 1 more", 1, p.arc(0, 0, (1L << 60) - 1));
            Check.dueThrow("8 weigh: 2^60", ArithmeticException.class, () -> p.weigh(1, 1L << 60));
            p.potential(0, sign * (Scene.MOST_POTENTIAL - 1));
            Check.due("8 weigh: 2^60 as the potential is less", (1L << 60) - 1, p.weigh(1, 1L << 60));
        }
    }

    // ---- 8 weigh

    private static void weighingNoArc() {
        for (int a : new int[] {Integer.MIN_VALUE, -1, 7, 8, 300, Integer.MAX_VALUE}) {
            Twins.refused("8 weigh(" + a + ")", IndexOutOfBoundsException.class, Scene::midst, p -> p.weigh(a, 1));
            Twins.refused("8 weigh(" + a + ") to -1", IndexOutOfBoundsException.class, Scene::midst,
                    p -> p.weigh(a, -1));
        }
        Twins.refused("8 weigh(300) of 300", IndexOutOfBoundsException.class, Scene::fullOfArcs, p -> p.weigh(300, 1));
        RoutePlanner p = new RoutePlanner();
        Scene.fullOfArcs(p);
        Check.due("8 weigh(299) of 300", 0, p.weigh(299, 5));
        Check.due("10 weight(299)", 5, p.weight(299));
        Check.due("8 weigh(0)", 3, p.weigh(0, 4));
    }

    private static void weighingAsItWas() {
        long[] was = {3, 3, 4, 9, 20, 1, 100};
        for (int k = 0; k < was.length; k++) {
            int a = k;
            Twins.noChange("8 weigh(" + a + ") as it was", was[a], Scene::midst, p -> p.weigh(a, was[a]));
        }
    }

    /** An arc to itself, or one that no best walk takes, changes the weights all the same. */
    private static void weighingToAnotherOne() {
        for (int a : new int[] {0, 4, 5}) {
            for (long by : new long[] {-1, 1}) {
                RoutePlanner p = new RoutePlanner();
                Scene.midst(p);
                long was = p.weight(a);
                Check.due("8 weigh: what it was", was, p.weigh(a, was + by));
                Check.due("10 weight", was + by, p.weight(a));
                Check.due("8 weigh: the hierarchy is gone", 0, p.ready());
                Check.due("16 settled is forgotten", -1, p.settled(0));
                Check.due("36 told is forgotten", -1, p.told(2));
                p.weigh(a, was);
                Check.due("8 weigh: the hierarchy stays gone", 0, p.ready());
            }
        }
    }

    // ---- 9 about, 10 weight

    private static void aboutNothing() {
        RoutePlanner p = new RoutePlanner();
        Scene.midst(p);
        for (int what = 0; what <= 6; what++) {
            int past = what < 2 ? 7 : 5;
            for (int k : new int[] {Integer.MIN_VALUE, -1, past, past + 1, Integer.MAX_VALUE}) {
                Check.due("9 about(" + k + ", " + what + ")", -1, p.about(k, what));
            }
        }
        for (int what : new int[] {Integer.MIN_VALUE, -2, -1, 7, 8, Integer.MAX_VALUE}) {
            for (int k : new int[] {-1, 0, 4, 6, 7}) {
                Check.due("9 about(" + k + ", " + what + ")", -1, p.about(k, what));
            }
        }
        for (int a : new int[] {Integer.MIN_VALUE, -1, 7, 8, 299, 300, Integer.MAX_VALUE}) {
            Check.due("10 weight(" + a + ")", -1, p.weight(a));
        }
    }

    private static void aboutTheLastOnes() {
        RoutePlanner p = new RoutePlanner();
        Scene.midst(p);
        int[][] due = {{6, 0, 4}, {6, 1, 0}, {5, 0, 3}, {5, 1, 3}, {0, 0, 0}, {0, 1, 1}, {4, 2, -2}, {4, 3, -2},
            {4, 4, 1}, {4, 5, 0}, {3, 4, 1}, {3, 5, 3}, {0, 4, 2}, {0, 5, 2}};
        for (int[] d : due) {
            Check.due("9 about(" + d[0] + ", " + d[1] + ")", d[2], p.about(d[0], d[1]));
        }
        Check.due("10 weight(6)", 100, p.weight(6));
        RoutePlanner full = new RoutePlanner();
        Scene.fullOfArcs(full);
        Check.due("9 about: arcs that begin at 4", 294, full.about(4, 4));
        Check.due("9 about: arcs that end at 4", 293, full.about(4, 5));
        RoutePlanner nodes = new RoutePlanner();
        Scene.fullOfNodes(nodes);
        Check.due("9 about(23, 2)", 9, nodes.about(23, 2));
        Check.due("9 about(24, 2)", -1, nodes.about(24, 2));
    }

    private static void ranksAtTheirEnds() {
        RoutePlanner p = new RoutePlanner();
        p.node(0, 0);
        Check.due("9 about: rank ahead of any hierarchy", -1, p.about(0, 6));
        p.prepare();
        Check.due("9 about: rank of the only node", 0, p.about(0, 6));
        p.node(0, 0);
        Check.due("9 about: rank of a hierarchy that is gone", -1, p.about(0, 6));
        Check.readText(p, "node 0 0\n".repeat(22));
        for (int v = 23; v >= 0; v--) {
            p.order(v);
        }
        p.prepareTold();
        for (int v = 0; v < 24; v++) {
            Check.due("9 about: rank of " + v, 23 - v, p.about(v, 6));
        }
    }

    // ---- 11 clear

    private static void clearAll() {
        RoutePlanner empty = new RoutePlanner();
        Check.due("11 clear of nothing", 0, empty.clear());
        RoutePlanner p = new RoutePlanner();
        Scene.fullOfNodes(p);
        Check.due("11 clear of 24", 24, p.clear());
        Check.due("11 clear again", 0, p.clear());
        int[] totals = {0, 0, 10, 1, 0, 0, 0, 0, 0};
        for (int what = 0; what <= 8; what++) {
            Check.due("11 clear: total(" + what + ")", totals[what], p.total(what));
        }
        Check.due("11 clear: place", -1, p.place());
        Check.due("11 clear: ready", 0, p.ready());
        Check.due("11 clear: settled", -1, p.settled(0));
        Check.due("11 clear: told", -1, p.told(2));
        Check.due("11 clear: found", -1, p.found());
        Check.due("11 clear: step", -1, p.step(0));
        Check.due("11 clear: relaxed", -1, p.relaxed(0, 0));
        Check.due("11 clear: ranked", -1, p.ranked(0));
        Check.due("11 clear: x", -1, p.about(0, 2));
        Check.due("11 clear: weight", -1, p.weight(0));
        Check.due("11 clear: distance", -1, p.distance(0, 0));
        Check.due("11 clear: bound", -1, p.bound(1, 1));
        Check.due("11 clear: reached", -1, p.reached(0, 0));
        Check.due("11 clear: inconsistent", -1, p.inconsistent());
    }

    /** What was cleared is like a new planner of the same factors and prepares, however full it was. */
    private static void clearedIsLikeNew() {
        Twins.Build[] scenes = {Scene::midst, Scene::fullOfNodes, Scene::fullOfArcs, Scene::fullOfLandmarks,
            Scene::inconsistent, p -> Scene.fullOfWeight(p, 0)};
        for (int k = 0; k < scenes.length; k++) {
            RoutePlanner p = new RoutePlanner();
            scenes[k].on(p);
            p.clear();
            p.end(0);
            tellAnew(p);
            RoutePlanner twin = new RoutePlanner();
            twin.prepare();
            twin.factors(1, 2, 3);
            twin.clear();
            tellAnew(twin);
            Twins.alike("11 clear: scene " + k, twin, p);
        }
    }

    private static void tellAnew(RoutePlanner p) {
        Check.readText(p, "node 5 5\nnode 4 4\nnode 3 3\nnode 2 2\nroad 0 1 3\nroad 1 2 3\narc 3 0 1\n");
    }

    private static void clearedCanBeFullAgain() {
        RoutePlanner p = new RoutePlanner();
        Scene.fullOfWeight(p, 0);
        p.landmark(0);
        p.landmark(4);
        p.clear();
        p.end(0);
        Check.due("11 clear: 24 nodes come", 0, Check.readText(p, "node 0 0\n".repeat(24)));
        Check.due("11 clear: 300 arcs come", 0, Check.readText(p, "road 0 1 0\n".repeat(150)));
        for (int v = 0; v < 4; v++) {
            Check.due("11 clear: landmarks come", v + 1, p.landmark(v));
        }
        Check.due("11 clear: weights come", 0, p.weigh(0, Scene.MOST_WEIGHT));
        Check.due("11 clear: and more", 0, p.weigh(1, Scene.MOST_WEIGHT - 1));
        Check.dueThrow("11 clear: and no more", ArithmeticException.class, () -> p.weigh(2, 1));
        Check.due("11 clear: the order is empty", 1, p.order(2));
    }

    private static void clearKeepsTheTape() {
        RoutePlanner p = new RoutePlanner();
        Check.feedText(p, "node 7 8\narc 0 0 5");
        p.clear();
        Check.due("11 clear: bytes stay", 18, p.total(2));
        Check.due("11 clear: read", 0, p.read());
        Check.due("11 clear: x", 7, p.about(0, 2));
        Check.due("11 clear: weight", 5, p.weight(0));
    }

    private static void clearKeepsPrepares() {
        RoutePlanner p = new RoutePlanner();
        for (int k = 1; k <= 24; k++) {
            p.prepare();
            p.clear();
            Check.due("11 clear: prepares", k, p.total(3));
        }
        Check.dueThrow("11 clear: the 25th prepare", UnsupportedOperationException.class, p::prepare);
        Check.dueThrow("11 clear: remake", UnsupportedOperationException.class, p::remake);
        Check.dueThrow("11 clear: prepareTold", UnsupportedOperationException.class, p::prepareTold);
    }

    // ---- 41 total

    private static void totalsOfNothingElse() {
        RoutePlanner p = new RoutePlanner();
        Scene.midst(p);
        for (int what : new int[] {Integer.MIN_VALUE, -2, -1, 9, 10, Integer.MAX_VALUE}) {
            Check.due("41 total(" + what + ")", -1, p.total(what));
        }
    }

    private static void totalsAtTheirLimits() {
        RoutePlanner p = new RoutePlanner();
        Check.readText(p, "node 0 0\n".repeat(24));
        Check.readText(p, "road 0 1 0\n".repeat(150));
        for (int v = 0; v < 4; v++) {
            p.landmark(v);
        }
        for (int v = 0; v < 24; v++) {
            Check.due("28 order", v + 1, p.order(v));
        }
        for (int k = 0; k < 24; k++) {
            p.remake();
        }
        Check.feedText(p, " ".repeat(2000));
        p.both(0, 1);
        int[] totals = {24, 300, 2000, 24, 4, 24, 2, 0, 2};
        for (int what = 0; what <= 8; what++) {
            Check.due("41 total(" + what + ") at its limit", totals[what], p.total(what));
        }
        p.weigh(0, 1);
        int[] gone = {24, 300, 2000, 24, 4, 24, 0, 0, 0};
        for (int what = 0; what <= 8; what++) {
            Check.due("41 total(" + what + ") without a hierarchy", gone[what], p.total(what));
        }
    }

    private static void totalOfTheLatestSearch() {
        RoutePlanner p = new RoutePlanner();
        Check.readText(p, "node 0 0\n".repeat(24) + "arc 0 1 1\n");
        Check.due("12 search from 0", 2, p.search(0));
        Check.due("41 total(8)", 2, p.total(8));
        Check.dueThrow("12 search from 24", IndexOutOfBoundsException.class, () -> p.search(24));
        Check.due("41 total(8) after what was refused", 2, p.total(8));
        Check.due("12 search from 23", 1, p.search(23));
        Check.due("41 total(8) of the latest one", 1, p.total(8));
        StringBuilder ring = new StringBuilder();
        for (int v = 0; v < 24; v++) {
            ring.append("arc ").append(v).append(' ').append((v + 1) % 24).append(" 1\n");
        }
        Check.readText(p, ring.toString());
        Check.due("12 search of all", 24, p.search(5));
        Check.due("41 total(8)", 24, p.total(8));
    }

    public static void main(String[] args) {
        newObjectHasNothing();
        newObjectRefuses();
        objectsStandAlone();
        placesWithin();
        placesBeyond();
        nodesUpToTheLimit();
        arcsOfNoNode();
        weightsByThemselves();
        arcsUpToTheLimit();
        allTogether();
        allTogetherWithPotentials();
        weighingNoArc();
        weighingAsItWas();
        weighingToAnotherOne();
        aboutNothing();
        aboutTheLastOnes();
        ranksAtTheirEnds();
        clearAll();
        clearedIsLikeNew();
        clearedCanBeFullAgain();
        clearKeepsTheTape();
        clearKeepsPrepares();
        totalsOfNothingElse();
        totalsAtTheirLimits();
        totalOfTheLatestSearch();
        Check.finish("GraphBoundsTest");
    }
}
