/** Promises 12 to 25 and 40 at their boundaries. */
public final class SearchBoundsTest {
    private static final int[] NO_NODES = {Integer.MIN_VALUE, -1, 5, 6, 23, 24, Integer.MAX_VALUE};
    private static final long NOWHERE = 1L << 62;

    private static RoutePlanner withNodes(int many) {
        RoutePlanner p = new RoutePlanner();
        Check.readText(p, "node 0 0\n".repeat(many));
        return p;
    }

    private static String rows(RoutePlanner p) {
        StringBuilder row = new StringBuilder();
        for (int i = 0; i < p.total(8); i++) {
            row.append(i == 0 ? "" : " ").append(p.settled(i)).append(':').append(p.length(i)).append(':')
                    .append(p.count(i));
        }
        return row.toString();
    }

    // ---- 12 to 15, the four searches

    private static void searchesOfNoNode() {
        for (int v : NO_NODES) {
            Twins.refused("12 search(" + v + ")", IndexOutOfBoundsException.class, Scene::midst, p -> p.search(v));
            Twins.refused("13 goal(" + v + ", 0)", IndexOutOfBoundsException.class, Scene::midst, p -> p.goal(v, 0));
            Twins.refused("13 goal(0, " + v + ")", IndexOutOfBoundsException.class, Scene::midst, p -> p.goal(0, v));
            Twins.refused("14 both(" + v + ", 0)", IndexOutOfBoundsException.class, Scene::midst, p -> p.both(v, 0));
            Twins.refused("14 both(0, " + v + ")", IndexOutOfBoundsException.class, Scene::midst, p -> p.both(0, v));
            Twins.refused("15 landmarked(" + v + ", 0)", IndexOutOfBoundsException.class, Scene::midst,
                    p -> p.landmarked(v, 0));
            Twins.refused("15 landmarked(0, " + v + ")", IndexOutOfBoundsException.class, Scene::midst,
                    p -> p.landmarked(0, v));
        }
        Twins.refused("13 goal(5, 0), not consistent", IndexOutOfBoundsException.class, Scene::inconsistent,
                p -> p.goal(5, 0));
        Twins.refused("15 landmarked(0, 5) without landmarks", IndexOutOfBoundsException.class,
                Scene::withoutLandmarks, p -> p.landmarked(0, 5));
    }

    private static void searchesRefused() {
        Twins.refused("13 goal, not consistent", IllegalStateException.class, Scene::inconsistent, p -> p.goal(0, 3));
        Twins.refused("13 goal from a node to itself, not consistent", IllegalStateException.class,
                Scene::inconsistent, p -> p.goal(2, 2));
        Twins.refused("15 landmarked without landmarks", IllegalStateException.class, Scene::withoutLandmarks,
                p -> p.landmarked(0, 3));
        RoutePlanner p = new RoutePlanner();
        Scene.inconsistent(p);
        p.potential(0, 3);
        Check.due("13 goal, consistent by just 0", 4, p.goal(0, 3));
        p.clear();
        p.node(0, 0);
        Check.dueThrow("15 landmarked: cleared", IllegalStateException.class, () -> p.landmarked(0, 0));
        p.landmark(0);
        Check.due("15 landmarked by one landmark", 1, p.landmarked(0, 0));
    }

    private static void searchesOfOneNode() {
        RoutePlanner p = withNodes(1);
        p.landmark(0);
        for (int arcs = 0; arcs < 2; arcs++) {
            Check.due("12 search of one", 1, p.search(0));
            Check.due("12 search of one", "0:0:0", rows(p));
            Check.due("13 goal of one", 1, p.goal(0, 0));
            Check.due("13 goal of one", "0:0:0", rows(p));
            Check.due("14 both of one: the one from s has nothing left", 1, p.both(0, 0));
            Check.due("14 both of one", "0:0:0", rows(p));
            Check.due("15 landmarked of one", 1, p.landmarked(0, 0));
            Check.due("15 landmarked of one", "0:0:0", rows(p));
            p.arc(0, 0, 0);
        }
    }

    /** From a node to itself, with others beside it. */
    private static void searchesThatEndAtOnce() {
        RoutePlanner p = withNodes(3);
        Check.readText(p, "road 0 1 1\nroad 1 2 1\n");
        p.landmark(0);
        Check.due("13 goal from 1 to 1", 1, p.goal(1, 1));
        Check.due("13 goal", "1:0:0", rows(p));
        Check.due("14 both from 1 to 1", 2, p.both(1, 1));
        Check.due("14 both", "1:0:0 1:0:0", rows(p));
        Check.due("15 landmarked from 1 to 1", 1, p.landmarked(1, 1));
        Check.due("15 landmarked", "1:0:0", rows(p));
    }

    /** Potentials that were told, tried or looked at are nothing to the searches that do not go by them. */
    private static void searchesByThemselves() {
        RoutePlanner p = new RoutePlanner();
        Check.readText(p, "node 0 0\nnode 5 0\nnode 9 0\narc 0 1 6\narc 0 2 9\narc 1 2 4\n");
        p.landmark(2);
        Check.due("23 straight", 1, p.straight(2, 1));
        Check.due("12 search after straight()", 3, p.search(0));
        Check.due("12 search", "0:0:0 1:6:1 2:9:1", rows(p));
        Check.due("13 goal by straight()", 2, p.goal(0, 2));
        Check.due("23 straight: too much", 0, p.straight(2, 1000000));
        Check.due("12 search after what straight() tried", 3, p.search(0));
        Check.due("12 search", "0:0:0 1:6:1 2:9:1", rows(p));
        Check.due("13 goal after it", 2, p.goal(0, 2));
        Check.due("15 landmarked to 1", 2, p.landmarked(0, 1));
        Check.due("25 bound towards 1", 5, p.bound(0, 1));
        Check.due("15 landmarked to 2", 2, p.landmarked(0, 2));
        Check.due("15 landmarked", "0:0:0 2:9:1", rows(p));
        Check.due("25 bound towards 0", NOWHERE, p.bound(2, 0));
        Check.due("15 landmarked to 2 again", 2, p.landmarked(0, 2));
    }

    private static void searchesThatReachNothing() {
        RoutePlanner p = withNodes(3);
        p.arc(1, 0, 1);
        p.landmark(2);
        Check.due("12 search: no arc begins there", 1, p.search(0));
        Check.due("13 goal: t is not reached", 1, p.goal(0, 1));
        Check.due("13 goal", "0:0:0", rows(p));
        Check.due("13 goal: all that s leads to", 2, p.goal(1, 2));
        Check.due("13 goal", "1:0:0 0:1:1", rows(p));
        Check.due("14 both: the one from s has nothing left", 1, p.both(0, 1));
        Check.due("14 both", "0:0:0", rows(p));
        Check.due("14 both: the other one has nothing left", 2, p.both(1, 2));
        Check.due("14 both", "1:0:0 2:0:0", rows(p));
        Check.due("15 landmarked: t is not reached", 2, p.landmarked(1, 2));
        Check.due("15 landmarked", "1:0:0 0:1:1", rows(p));
    }

    /** 0 to 23 along a line whose weights are all that can be told. */
    private static void searchesAlongAllNodes() {
        RoutePlanner p = withNodes(24);
        long w = (Scene.SUM_LIMIT - 1) / 23;
        StringBuilder line = new StringBuilder();
        for (int v = 0; v < 23; v++) {
            p.arc(v, v + 1, w);
            line.append(v == 0 ? "" : " ").append(v).append(':').append(v * w).append(':').append(v);
        }
        line.append(" 23:").append(23 * w).append(":23");
        Check.due("12 search of 24", 24, p.search(0));
        Check.due("12 search of 24", line.toString(), rows(p));
        Check.due("12 search from the last", 1, p.search(23));
        Check.due("13 goal of 24", 24, p.goal(0, 23));
        Check.due("13 goal of 24", line.toString(), rows(p));
        p.landmark(23);
        Check.due("15 landmarked of 24", 24, p.landmarked(0, 23));
        Check.due("15 landmarked of 24", line.toString(), rows(p));
        Check.due("19 distance of 24", 23 * w, p.distance(0, 23));
        Check.due("20 arcs of 24", 23, p.arcs(0, 23));
        Check.due("25 bound of 24", 23 * w, p.bound(0, 23));
        Check.due("40 reached(0, 23)", 23, p.reached(0, 23));
        Check.due("40 reached(0, 24)", -1, p.reached(0, 24));
    }

    /** 12 from the start and 13 back from the end, each of them by turns. */
    private static void bothAlongAllNodes() {
        RoutePlanner p = withNodes(24);
        for (int v = 0; v < 23; v++) {
            p.arc(v, v + 1, 2);
        }
        Check.due("14 both of 24", 25, p.both(0, 23));
        Check.due("16 settled: the last from s", 12, p.settled(12));
        Check.due("17 length of it", 24, p.length(12));
        Check.due("16 settled: the first back from t", 23, p.settled(13));
        Check.due("17 length of it", 0, p.length(13));
        Check.due("16 settled: the last back from t", 12, p.settled(24));
        Check.due("17 length of it", 22, p.length(24));
        Check.due("18 count of it", 11, p.count(24));
        Check.due("16 settled behind the last", -1, p.settled(25));
        Check.due("17 length behind the last", -1, p.length(25));
        Check.due("18 count behind the last", -1, p.count(25));
    }

    /** The next ones of both are never nearer than what has been settled by both: it is over at once then. */
    private static void bothIsOverAtTheBest() {
        RoutePlanner p = withNodes(4);
        p.arc(0, 1, 2);
        p.arc(1, 2, 2);
        p.arc(0, 3, 3);
        p.arc(3, 2, 3);
        Check.due("14 both: 3 and 3 are not less than 4", 4, p.both(0, 2));
        Check.due("14 both", "0:0:0 1:2:1 2:0:0 1:2:1", rows(p));
        p.weigh(2, 2);
        Check.due("14 both: of like lengths that from s", 5, p.both(0, 2));
        Check.due("14 both", "0:0:0 1:2:1 3:2:1 2:0:0 1:2:1", rows(p));
    }

    /** Two nodes and no end to the weights: the sums of lengths from both ends stay right. */
    private static void bothOfTheLongestArcs() {
        RoutePlanner p = withNodes(3);
        p.arc(0, 1, Scene.MOST_WEIGHT);
        p.arc(1, 2, Scene.MOST_WEIGHT - 1);
        Check.due("14 both", 4, p.both(0, 2));
        Check.due("14 both", "0:0:0 1:2305843009213693952:1 2:0:0 1:2305843009213693951:1", rows(p));
        Check.due("19 distance", Scene.SUM_LIMIT - 1, p.distance(0, 2));
    }

    /** The potentials of the greatest kind, either sign. */
    private static void goalByTheGreatestPotentials() {
        RoutePlanner p = withNodes(3);
        p.arc(0, 1, Scene.MOST_POTENTIAL);
        p.arc(0, 2, 5);
        p.potential(0, Scene.MOST_POTENTIAL);
        p.potential(2, Scene.MOST_POTENTIAL - 5);
        Check.due("22 inconsistent", -1, p.inconsistent());
        Check.due("13 goal: 2 is as far by count and number", 2, p.goal(0, 1));
        Check.due("13 goal", "0:0:0 1:1152921504606846976:1", rows(p));
        p.potential(1, 1);
        Check.due("13 goal: 1 is farther by 1", 3, p.goal(0, 1));
        Check.due("13 goal", "0:0:0 2:5:1 1:1152921504606846976:1", rows(p));
        p.potential(2, 0);
        Check.due("22 inconsistent", 1, p.inconsistent());
        p.potential(0, -Scene.MOST_POTENTIAL);
        Check.due("13 goal by a potential below 0", 2, p.goal(0, 2));
        p.potential(1, -Scene.MOST_POTENTIAL);
        Check.due("13 goal by one more below 0", 3, p.goal(0, 2));
        Check.due("13 goal", "0:0:0 1:1152921504606846976:1 2:5:1", rows(p));
    }

    // ---- 16 to 18, what was settled

    private static void settledOutside() {
        RoutePlanner p = new RoutePlanner();
        Scene.midst(p);
        int size = p.total(8);
        for (int i : new int[] {Integer.MIN_VALUE, -2, -1, size, size + 1, 48, Integer.MAX_VALUE}) {
            Check.due("16 settled(" + i + ")", -1, p.settled(i));
            Check.due("17 length(" + i + ")", -1, p.length(i));
            Check.due("18 count(" + i + ")", -1, p.count(i));
        }
        Check.due("16 settled(0)", 0, p.settled(0));
        Check.due("17 length(0)", 0, p.length(0));
        Check.due("18 count(0)", 0, p.count(0));
        p.search(2);
        Check.due("16 settled: the latest one is shorter", -1, p.settled(2));
        Check.due("16 settled: its last", 3, p.settled(1));
    }

    private static void dueForgotten(String what, boolean forgotten, Twins.CallOn call) {
        RoutePlanner p = new RoutePlanner();
        Scene.midst(p);
        p.end(0);
        int size = p.search(0);
        call.on(p);
        Check.due("16 settled: forgotten by " + what, forgotten ? -1 : 0, p.settled(0));
        Check.due("17 length: forgotten by " + what, forgotten ? -1 : 0, p.length(0));
        Check.due("18 count: forgotten by " + what, forgotten ? -1 : 0, p.count(0));
        Check.due("41 total(8): forgotten by " + what, forgotten ? 0 : size, p.total(8));
    }

    private static void settledIsForgotten() {
        dueForgotten("node()", true, p -> p.node(0, 0));
        dueForgotten("arc()", true, p -> p.arc(0, 0, 0));
        dueForgotten("weigh()", true, p -> p.weigh(6, 99));
        dueForgotten("clear()", true, p -> p.clear());
        dueForgotten("read() of a node", true, p -> Check.readText(p, "node 0 0"));
        dueForgotten("read() of an arc", true, p -> Check.readText(p, "arc 0 0 0"));
        dueForgotten("read() of a road", true, p -> Check.readText(p, "road 0 0 0"));
        dueForgotten("read() of nothing", false, p -> Check.readText(p, "\n"));
        dueForgotten("read() of a fault", false, p -> Check.readText(p, "node 0 0\narc 0 0 0\nx"));
        dueForgotten("weigh() as it was", false, p -> p.weigh(6, 100));
        dueForgotten("feed()", false, p -> p.feed(0, 0, 0, 0, 0));
        dueForgotten("potential()", false, p -> p.potential(0, 3));
        dueForgotten("straight()", false, p -> p.straight(0, 0));
        dueForgotten("landmark()", false, p -> p.landmark(0));
        dueForgotten("factors()", false, p -> p.factors(0, 0, 0));
        dueForgotten("order()", false, p -> p.order(4));
        dueForgotten("prepare()", false, p -> p.prepare());
        dueForgotten("remake()", false, p -> p.remake());
        dueForgotten("query()", false, p -> p.query(0, 3));
        dueForgotten("distance()", false, p -> p.distance(1, 0));
        dueForgotten("arcs()", false, p -> p.arcs(1, 0));
        dueForgotten("reached()", false, p -> p.reached(1, 0));
        dueForgotten("bound()", false, p -> p.bound(1, 0));
    }

    // ---- 19 distance, 20 arcs, 40 reached

    private static void distancesOfNoNode() {
        RoutePlanner p = new RoutePlanner();
        Scene.midst(p);
        for (int v : NO_NODES) {
            Check.due("19 distance(" + v + ", 0)", -1, p.distance(v, 0));
            Check.due("19 distance(0, " + v + ")", -1, p.distance(0, v));
            Check.due("19 distance(" + v + ", " + v + ")", -1, p.distance(v, v));
            Check.due("20 arcs(" + v + ", 0)", -1, p.arcs(v, 0));
            Check.due("20 arcs(0, " + v + ")", -1, p.arcs(0, v));
            Check.due("20 arcs(" + v + ", " + v + ")", -1, p.arcs(v, v));
            Check.due("40 reached(" + v + ", 0)", -1, p.reached(v, 0));
        }
        for (int i : new int[] {Integer.MIN_VALUE, -1, 4, 5, 24, Integer.MAX_VALUE}) {
            Check.due("40 reached(0, " + i + ")", -1, p.reached(0, i));
        }
        Check.due("40 reached: the last of 0", 3, p.reached(0, 3));
        Check.due("40 reached: the last of 4", 4, p.reached(4, 4));
        Check.due("40 reached: 3 leads to itself alone", 3, p.reached(3, 0));
        Check.due("40 reached: no other one", -1, p.reached(3, 1));
        Check.due("19 distance without a walk", -1, p.distance(3, 0));
        Check.due("20 arcs without a walk", -1, p.arcs(3, 0));
        Check.due("19 distance over an arc to itself", 0, p.distance(3, 3));
        Check.due("20 arcs over an arc to itself", 0, p.arcs(3, 3));
        Twins.noChange("19 distance changes nothing", 16, Scene::midst, q -> q.distance(0, 3));
        Twins.noChange("20 arcs changes nothing", 3, Scene::midst, q -> q.arcs(0, 3));
        Twins.noChange("40 reached changes nothing", 3, Scene::midst, q -> q.reached(0, 3));
    }

    /** Of like lengths the lesser count, of weights 0 too. */
    private static void distancesOfLikeLengths() {
        RoutePlanner p = withNodes(4);
        p.arc(0, 1, 0);
        p.arc(1, 2, 0);
        p.arc(2, 3, 0);
        Check.due("19 distance of weights 0", 0, p.distance(0, 3));
        Check.due("20 arcs of weights 0", 3, p.arcs(0, 3));
        p.arc(0, 3, 1);
        Check.due("20 arcs: one arc is longer by 1", 3, p.arcs(0, 3));
        p.weigh(3, 0);
        Check.due("20 arcs: one arc just as long", 1, p.arcs(0, 3));
        p.arc(0, 2, 0);
        Check.due("12 search: count, then number", 4, p.search(0));
        Check.due("12 search", "0:0:0 1:0:1 2:0:1 3:0:1", rows(p));
    }

    // ---- 21 potential, 22 inconsistent

    private static void potentialsRefused() {
        for (int v : NO_NODES) {
            Twins.refused("21 potential of " + v, IndexOutOfBoundsException.class, Scene::midst,
                    p -> p.potential(v, 0));
            Twins.refused("21 potential of " + v + " beyond", IndexOutOfBoundsException.class, Scene::midst,
                    p -> p.potential(v, Long.MAX_VALUE));
        }
        for (long q : new long[] {Long.MIN_VALUE, -Scene.MOST_POTENTIAL - 1, Scene.MOST_POTENTIAL + 1,
            Scene.MOST_WEIGHT, Long.MAX_VALUE}) {
            Twins.refused("21 potential " + q, IllegalArgumentException.class, Scene::midst, p -> p.potential(0, q));
            Twins.refused("21 potential " + q + " when all is told", IllegalArgumentException.class,
                    p -> Scene.fullOfWeight(p, 0), p -> p.potential(0, q));
        }
        for (long left : new long[] {0, 1, 50}) {
            Twins.Build full = p -> Scene.fullOfWeight(p, left);
            for (long sign = -1; sign <= 1; sign += 2) {
                long s = sign;
                Twins.refused("21 potential: a sum of 2^62", ArithmeticException.class, full,
                        p -> p.potential(2, s * (left + 1)));
                Twins.refused("21 potential: a sum of 2^62 from 1", ArithmeticException.class, full,
                        p -> p.potential(0, s * (left + 2)));
                Twins.refused("21 potential: a sum of 2^62 from -2", ArithmeticException.class, full,
                        p -> p.potential(3, s * (left + 3)));
                Twins.refused("21 potential: a sum beyond", ArithmeticException.class, full,
                        p -> p.potential(2, s * Scene.MOST_POTENTIAL));
                RoutePlanner p = new RoutePlanner();
                full.on(p);
                Check.due("21 potential: a sum of 2^62 - 1", -2, p.potential(3, s * (left + 2)));
                Check.due("21 potential: the other sign", s * (left + 2), p.potential(3, -s * (left + 2)));
                Check.dueThrow("21 potential: 1 more", ArithmeticException.class, () -> p.potential(2, s));
                Check.due("21 potential: 0", 0, p.potential(2, 0));
                Check.due("21 potential: one less", -s * (left + 2), p.potential(3, -s * (left + 1)));
                Check.due("21 potential: the one that is free", 0, p.potential(2, s));
            }
        }
    }

    private static void potentialsWithin() {
        for (long q : new long[] {-Scene.MOST_POTENTIAL, 1 - Scene.MOST_POTENTIAL, -1, 0, 1,
            Scene.MOST_POTENTIAL - 1, Scene.MOST_POTENTIAL}) {
            RoutePlanner p = withNodes(24);
            Check.due("21 potential at first", 0, p.potential(23, q));
            Check.due("21 potential " + q, q, p.potential(23, q));
            Check.due("21 potential of another node", 0, p.potential(0, 0));
        }
        RoutePlanner p = withNodes(5);
        for (int v = 0; v < 3; v++) {
            p.potential(v, (v % 2 * 2 - 1) * Scene.MOST_POTENTIAL);
        }
        Check.dueThrow("21 potential: 4 of 2^60", ArithmeticException.class,
                () -> p.potential(3, Scene.MOST_POTENTIAL));
        Check.due("21 potential: 2^60 - 1", 0, p.potential(3, Scene.MOST_POTENTIAL - 1));
        Check.dueThrow("7 arc: 1 more", ArithmeticException.class, () -> p.arc(0, 0, 1));
        Check.due("22 inconsistent without arcs", -1, p.inconsistent());
    }

    private static void inconsistentByJustOne() {
        RoutePlanner p = withNodes(3);
        p.arc(0, 1, 5);
        p.arc(1, 2, 0);
        p.arc(2, 2, 0);
        p.potential(0, 5);
        Check.due("22 inconsistent: 5 and 0 are not less than 5", -1, p.inconsistent());
        p.potential(0, 6);
        Check.due("22 inconsistent: less than 6", 0, p.inconsistent());
        p.potential(0, 3);
        p.potential(1, -2);
        Check.due("22 inconsistent: 5 and -2 are not less than 3", -1, p.inconsistent());
        p.potential(2, -3);
        Check.due("22 inconsistent: 0 and -3 are less than -2", 1, p.inconsistent());
        p.potential(1, -3);
        Check.due("22 inconsistent: the first one of two", 0, p.inconsistent());
        p.weigh(0, 6);
        Check.due("22 inconsistent: not by weight 6", -1, p.inconsistent());
        Check.readText(p, "arc 0 2 5\n");
        Check.due("22 inconsistent: by an arc that comes", 3, p.inconsistent());
    }

    /** All the way from -2^60 to 2^60 in one arc. */
    private static void inconsistentAtTheLimits() {
        RoutePlanner p = withNodes(2);
        p.arc(0, 1, Scene.MOST_WEIGHT - 1);
        p.potential(0, Scene.MOST_POTENTIAL);
        p.potential(1, -Scene.MOST_POTENTIAL);
        Check.due("22 inconsistent: 2^61 - 1 is less than 2^61", 0, p.inconsistent());
        p.potential(1, 1 - Scene.MOST_POTENTIAL);
        Check.due("22 inconsistent: it is not less than 2^61 - 1", -1, p.inconsistent());
    }

    // ---- 23 straight

    private static void straightRefused() {
        for (int v : NO_NODES) {
            Twins.refused("23 straight(" + v + ", 0)", IndexOutOfBoundsException.class, Scene::midst,
                    p -> p.straight(v, 0));
            Twins.refused("23 straight(" + v + ", -1)", IndexOutOfBoundsException.class, Scene::midst,
                    p -> p.straight(v, -1));
        }
        for (int k : new int[] {Integer.MIN_VALUE, -1, 1000001, Integer.MAX_VALUE}) {
            Twins.refused("23 straight(0, " + k + ")", IllegalArgumentException.class, Scene::midst,
                    p -> p.straight(0, k));
        }
    }

    /** Towards 0, arc 0 of the scene lets no more than once 3: twice, 6, is too much for its way back. */
    private static void straightNotConsistent() {
        Twins.noChange("23 straight(0, 2)", 0, Scene::midst, p -> p.straight(0, 2));
        Twins.noChange("23 straight(0, 1000000)", 0, Scene::midst, p -> p.straight(0, 1000000));
        RoutePlanner p = new RoutePlanner();
        Scene.midst(p);
        Check.due("23 straight(0, 1)", 1, p.straight(0, 1));
        long[] far = {0, 3, 6, 11, 4};
        for (int v = 0; v < far.length; v++) {
            Check.due("23 straight: potential of " + v, far[v], p.potential(v, far[v]));
        }
        Check.due("23 straight(0, 0)", 1, p.straight(0, 0));
        for (int v = 0; v < far.length; v++) {
            Check.due("23 straight by 0: potential of " + v, 0, p.potential(v, 0));
        }
    }

    private static void straightAcrossThePlane() {
        for (long less = 0; less <= 1; less++) {
            RoutePlanner p = new RoutePlanner();
            p.node(-1000000, -1000000);
            p.node(1000000, 1000000);
            p.arc(0, 1, 4000000000000L - less);
            Check.due("23 straight(1, 1000000)", less == 0 ? 1 : 0, p.straight(1, 1000000));
            Check.due("23 straight: potential of 0", less == 0 ? 4000000000000L : 0, p.potential(0, 0));
            Check.due("23 straight(1, 999999)", 1, p.straight(1, 999999));
            Check.due("23 straight: potential of 0", 3999996000000L, p.potential(0, 0));
            Check.due("23 straight: potential of 1", 0, p.potential(1, 0));
        }
    }

    /** Both nodes at one place, and a single one. */
    private static void straightToTheSamePlace() {
        RoutePlanner p = withNodes(2);
        p.arc(0, 1, 0);
        p.arc(1, 0, 0);
        Check.due("23 straight(0, 1000000)", 1, p.straight(0, 1000000));
        Check.due("23 straight: potential of 1", 0, p.potential(1, 0));
        RoutePlanner one = withNodes(1);
        one.potential(0, 7);
        Check.due("23 straight of one node", 1, one.straight(0, 1000000));
        Check.due("23 straight: its potential", 0, one.potential(0, 0));
    }

    /** All 24 nodes on a line, each farther by 1. */
    private static void straightOfAllNodes() {
        RoutePlanner p = new RoutePlanner();
        for (int v = 0; v < 24; v++) {
            p.node(v, 0);
        }
        p.arc(0, 0, Scene.MOST_WEIGHT);
        p.arc(0, 0, Scene.MOST_WEIGHT - 1 - 23 * 12);
        Check.due("23 straight of 24", 1, p.straight(23, 1));
        for (int v = 0; v < 24; v++) {
            Check.due("23 straight: potential of " + v, 23 - v, p.potential(v, 23 - v));
        }
        Check.dueThrow("21 potential: 1 more", ArithmeticException.class, () -> p.potential(23, 1));
        Check.due("23 straight by 2", 0, p.straight(23, 2));
        Check.due("23 straight towards the middle", 1, p.straight(12, 1));
        Check.due("23 straight: potential of 23", 11, p.potential(23, 0));
    }

    /** What the potentials were is not counted, what they become is. */
    private static void straightUpToTheSum() {
        for (long left = 22; left <= 24; left++) {
            long room = left;
            Twins.Build full = p -> {
                Scene.fullOfWeight(p, room - 3);
                p.end(0);
            };
            RoutePlanner p = new RoutePlanner();
            full.on(p);
            Check.due("23 straight: 24 of " + left, left == 24 ? 1 : 0, p.straight(0, 1));
            if (left < 24) {
                Twins.noChange("23 straight: a sum beyond", 0, full, q -> q.straight(0, 1));
            } else {
                Check.dueThrow("7 arc: 1 more", ArithmeticException.class, () -> p.arc(0, 0, 1));
                Check.due("23 straight(0, 0)", 1, p.straight(0, 0));
                Check.dueThrow("7 arc: 25 more", ArithmeticException.class, () -> p.arc(0, 0, 25));
                Check.due("7 arc: 24 more", 10, p.arc(0, 0, 24));
            }
        }
    }

    // ---- 24 landmark, 25 bound

    private static void landmarksRefused() {
        for (int v : NO_NODES) {
            Twins.refused("24 landmark(" + v + ")", IndexOutOfBoundsException.class, Scene::midst, p -> p.landmark(v));
            Twins.refused("24 landmark(" + v + ") when there are 4", IndexOutOfBoundsException.class,
                    Scene::fullOfLandmarks, p -> p.landmark(v));
        }
        for (int v : new int[] {1, 3}) {
            Twins.refused("24 landmark(" + v + ") again", IllegalArgumentException.class, Scene::midst,
                    p -> p.landmark(v));
        }
        for (int v : new int[] {0, 1, 3, 4}) {
            Twins.refused("24 landmark(" + v + ") again when there are 4", IllegalArgumentException.class,
                    Scene::fullOfLandmarks, p -> p.landmark(v));
        }
        Twins.refused("24 landmark, the fifth", IllegalStateException.class, Scene::fullOfLandmarks,
                p -> p.landmark(2));
    }

    private static void landmarksUpToTheLimit() {
        RoutePlanner p = withNodes(24);
        int[] row = {23, 0, 11, 12};
        for (int k = 0; k < 4; k++) {
            Check.due("24 landmark", k + 1, p.landmark(row[k]));
            Check.due("41 total(4)", k + 1, p.total(4));
        }
        Check.dueThrow("24 landmark, the fifth", IllegalStateException.class, () -> p.landmark(1));
        p.arc(0, 1, 1);
        p.weigh(0, 2);
        Check.due("24 landmarks stay as arcs come", 4, p.total(4));
    }

    private static void boundsOfNothing() {
        RoutePlanner p = new RoutePlanner();
        Scene.midst(p);
        for (int v : NO_NODES) {
            Check.due("25 bound(" + v + ", 0)", -1, p.bound(v, 0));
            Check.due("25 bound(0, " + v + ")", -1, p.bound(0, v));
        }
        RoutePlanner none = new RoutePlanner();
        Scene.withoutLandmarks(none);
        Check.due("25 bound without landmarks", -1, none.bound(0, 3));
        Check.due("25 bound of one node without landmarks", -1, none.bound(0, 0));
        none.landmark(4);
        Check.due("25 bound of one node", 0, none.bound(0, 0));
        Twins.noChange("25 bound changes nothing", 16, Scene::midst, q -> q.bound(0, 3));
    }

    /** One landmark, node 1; what leads to it and what it leads to, in all ways that there are. */
    private static void boundsThatProveNothingLeads() {
        RoutePlanner p = withNodes(5);
        p.arc(0, 1, 3);
        p.arc(1, 2, 4);
        p.landmark(1);
        long[][] due = {
            {0, 0, 0}, {0, 1, 3}, {0, 2, 0}, {0, 3, 0},
            {1, 0, NOWHERE}, {1, 1, 0}, {1, 2, 4}, {1, 3, NOWHERE},
            {2, 0, NOWHERE}, {2, 1, NOWHERE}, {2, 2, 0}, {2, 3, NOWHERE},
            {3, 0, NOWHERE}, {3, 1, NOWHERE}, {3, 2, 0}, {3, 4, 0}};
        for (long[] d : due) {
            Check.due("25 bound(" + d[0] + ", " + d[1] + ")", d[2], p.bound((int) d[0], (int) d[1]));
        }
        p.landmark(3);
        Check.due("25 bound by a second landmark", NOWHERE, p.bound(0, 3));
        Check.due("25 bound from it", NOWHERE, p.bound(3, 4));
        Check.due("25 bound of what neither tells", 0, p.bound(0, 4));
    }

    /** From 2 to the landmark in 1, from 1 in 6; from the landmark to 1 in 1, to 2 in 6: all that is known is below 0. */
    private static void boundsAreNotBelowNothing() {
        RoutePlanner p = withNodes(3);
        Check.readText(p, "arc 0 1 1\narc 1 2 5\narc 2 0 1\n");
        p.landmark(0);
        Check.due("25 bound(2, 1)", 0, p.bound(2, 1));
        Check.due("25 bound(1, 2)", 5, p.bound(1, 2));
        Check.due("25 bound(0, 0)", 0, p.bound(0, 0));
    }

    /** Lengths up to 2^62 - 1 and a potential of 2^62 go together without a wrap-around. */
    private static void landmarkedByTheGreatest() {
        RoutePlanner p = withNodes(4);
        p.arc(0, 1, Scene.MOST_WEIGHT);
        p.arc(1, 2, Scene.MOST_WEIGHT - 1);
        p.landmark(3);
        Check.due("15 landmarked by 0s", 3, p.landmarked(0, 2));
        Check.due("25 bound", NOWHERE, p.bound(0, 3));
        Check.due("15 landmarked by 2^62", 3, p.landmarked(0, 3));
        Check.due("15 landmarked", "0:0:0 1:2305843009213693952:1 2:4611686018427387903:2", rows(p));
        p.landmark(2);
        Check.due("25 bound by the longest way", Scene.SUM_LIMIT - 1, p.bound(0, 2));
        Check.due("15 landmarked by it", 3, p.landmarked(0, 2));
    }

    public static void main(String[] args) {
        searchesOfNoNode();
        searchesRefused();
        searchesOfOneNode();
        searchesThatEndAtOnce();
        searchesByThemselves();
        searchesThatReachNothing();
        searchesAlongAllNodes();
        bothAlongAllNodes();
        bothIsOverAtTheBest();
        bothOfTheLongestArcs();
        goalByTheGreatestPotentials();
        settledOutside();
        settledIsForgotten();
        distancesOfNoNode();
        distancesOfLikeLengths();
        potentialsRefused();
        potentialsWithin();
        inconsistentByJustOne();
        inconsistentAtTheLimits();
        straightRefused();
        straightNotConsistent();
        straightAcrossThePlane();
        straightToTheSamePlace();
        straightOfAllNodes();
        straightUpToTheSum();
        landmarksRefused();
        landmarksUpToTheLimit();
        boundsOfNothing();
        boundsThatProveNothingLeads();
        boundsAreNotBelowNothing();
        landmarkedByTheGreatest();
        Check.finish("SearchBoundsTest");
    }
}
