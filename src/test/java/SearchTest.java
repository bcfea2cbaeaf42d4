/** Promises 12 to 25 and 40: searches, distances, potentials, landmarks, what is reached. */
public final class SearchTest {
    private static final long BIG = 1L << 61;

    /** The rows settled, length and count, each as a text, with what stands behind the last one. */
    private static void dueTrail(String what, RoutePlanner p, String nodes, String lengths, String counts) {
        StringBuilder n = new StringBuilder();
        StringBuilder l = new StringBuilder();
        StringBuilder c = new StringBuilder();
        for (int i = 0; i < p.total(8); i++) {
            n.append(p.settled(i)).append(' ');
            l.append(p.length(i)).append(' ');
            c.append(p.count(i)).append(' ');
        }
        Check.due(what + ", nodes", nodes, n.toString().trim());
        Check.due(what + ", lengths", lengths, l.toString().trim());
        Check.due(what + ", counts", counts, c.toString().trim());
        for (int i : new int[] {-1, p.total(8), Integer.MAX_VALUE, Integer.MIN_VALUE}) {
            Check.due(what + ", settled(" + i + ")", -1, p.settled(i));
            Check.due(what + ", length(" + i + ")", -1, p.length(i));
            Check.due(what + ", count(" + i + ")", -1, p.count(i));
        }
    }

    private static RoutePlanner withNodes(int many) {
        RoutePlanner p = new RoutePlanner();
        for (int v = 0; v < many; v++) {
            p.node(v, 0);
        }
        return p;
    }

    /** 0 to 3 along a line, one way, of weight 1 each; 4 leads to 0 alone. */
    private static RoutePlanner line() {
        RoutePlanner p = withNodes(5);
        p.arc(0, 1, 1);
        p.arc(1, 2, 1);
        p.arc(2, 3, 1);
        p.arc(4, 0, 1);
        return p;
    }

    private static void searchOrder() {
        RoutePlanner p = withNodes(6);
        p.arc(0, 3, 2);
        p.arc(0, 2, 2);
        p.arc(0, 4, 0);
        p.arc(4, 1, 2);
        p.arc(4, 2, 2);
        p.arc(3, 1, 0);
        p.arc(0, 0, 0);
        p.arc(5, 0, 0);
        Check.due("search", 5, p.search(0));
        dueTrail("search", p, "0 4 2 3 1", "0 0 2 2 2", "0 1 1 1 2");
        Check.due("search from 1", 1, p.search(1));
        dueTrail("search from 1", p, "1", "0", "0");
        Check.dueThrow("search(6)", IndexOutOfBoundsException.class, () -> p.search(6));
        Check.dueThrow("search(-1)", IndexOutOfBoundsException.class, () -> p.search(-1));
        dueTrail("what was settled stays", p, "1", "0", "0");
        p.potential(0, 0);
        p.landmark(0);
        p.prepare();
        dueTrail("what was settled stays still", p, "1", "0", "0");
    }

    private static void forgetting() {
        RoutePlanner p = line();
        p.search(0);
        p.node(0, 0);
        Check.due("a node comes", -1, p.settled(0));
        p.search(0);
        p.arc(0, 4, 9);
        Check.due("an arc comes", -1, p.length(0));
        p.search(0);
        p.weigh(0, 9);
        Check.due("a weight changes", -1, p.count(0));
        p.search(0);
        p.clear();
        Check.due("clear", -1, p.settled(0));
    }

    private static void goalSearch() {
        RoutePlanner p = line();
        p.arc(0, 4, 1);
        Check.due("goal without potentials", 4, p.goal(0, 2));
        dueTrail("goal without potentials", p, "0 1 4 2", "0 1 1 2", "0 1 1 2");
        for (int v = 0; v < 4; v++) {
            p.potential(v, 3 - v);
        }
        p.potential(4, 4);
        Check.due("goal by potentials", 4, p.goal(0, 3));
        dueTrail("goal by potentials", p, "0 1 2 3", "0 1 2 3", "0 1 2 3");
        Check.due("goal that is the start", 1, p.goal(2, 2));
        Check.due("goal that is not reached", 2, p.goal(2, 4));
        dueTrail("goal that is not reached", p, "2 3", "0 1", "0 1");
        p.potential(4, 2);
        Check.due("like lengths go by count", 3, p.goal(0, 4));
        dueTrail("like lengths go by count", p, "0 1 4", "0 1 1", "0 1 1");
        p.potential(4, 5);
        Check.due("inconsistent arc", 3, p.inconsistent());
        Check.dueThrow("goal", IllegalStateException.class, () -> p.goal(0, 3));
        Check.dueThrow("goal from 5", IndexOutOfBoundsException.class, () -> p.goal(5, 3));
        Check.dueThrow("goal to -1", IndexOutOfBoundsException.class, () -> p.goal(0, -1));
        dueTrail("the latest search stays", p, "0 1 4", "0 1 1", "0 1 1");
    }

    private static void bothWays() {
        RoutePlanner p = line();
        Check.due("both", 5, p.both(0, 3));
        dueTrail("both", p, "0 1 2 3 2", "0 1 2 0 1", "0 1 2 0 1");
        Check.due("both of one node", 2, p.both(1, 1));
        dueTrail("both of one node", p, "1 1", "0 0", "0 0");
        p.weigh(0, 0);
        Check.due("both over a weight 0", 4, p.both(0, 2));
        dueTrail("both over a weight 0", p, "0 1 2 2", "0 0 1 0", "0 1 2 0");
        p.weigh(1, 0);
        Check.due("of like lengths ahead goes first", 3, p.both(1, 1));
        dueTrail("of like lengths ahead goes first", p, "1 2 1", "0 0 0", "0 1 0");
        Check.due("no way", 2, p.both(2, 4));
        dueTrail("no way", p, "2 4", "0 0", "0 0");
        Check.dueThrow("both from 5", IndexOutOfBoundsException.class, () -> p.both(5, 0));
        Check.dueThrow("both to -1", IndexOutOfBoundsException.class, () -> p.both(0, -1));
    }

    /** The nodes that both have settled count alone: they meet in 1, though the best way leads by 2 and 3. */
    private static void bothMeetBesideTheBestWay() {
        RoutePlanner p = withNodes(5);
        p.arc(0, 1, 5);
        p.arc(1, 4, 5);
        p.arc(0, 2, 3);
        p.arc(2, 3, 3);
        p.arc(3, 4, 3);
        Check.due("both", 6, p.both(0, 4));
        dueTrail("both", p, "0 2 1 4 3 1", "0 3 5 0 3 5", "0 1 1 0 1 1");
        Check.due("distance", 9, p.distance(0, 4));
    }

    private static void byLandmarks() {
        RoutePlanner p = line();
        Check.dueThrow("no landmarks", IllegalStateException.class, () -> p.landmarked(0, 3));
        Check.dueThrow("no node", IndexOutOfBoundsException.class, () -> p.landmarked(0, 5));
        Check.due("bound without landmarks", -1, p.bound(0, 3));
        p.arc(0, 4, 1);
        p.arc(4, 4, 0);
        Check.due("landmark", 1, p.landmark(3));
        Check.due("bound of 0", 3, p.bound(0, 3));
        Check.due("bound of 4", 4, p.bound(4, 3));
        Check.due("bound of the goal", 0, p.bound(3, 3));
        Check.due("bound towards what is farther", 0, p.bound(2, 1));
        Check.due("3 does not lead to 1", 1L << 62, p.bound(3, 1));
        Check.due("landmarked", 4, p.landmarked(0, 3));
        dueTrail("landmarked", p, "0 1 2 3", "0 1 2 3", "0 1 2 3");
        Check.due("landmarked from 5", -1, p.bound(5, 3));
        Check.due("bound towards -1", -1, p.bound(0, -1));
        Check.dueThrow("landmarked from 5", IndexOutOfBoundsException.class, () -> p.landmarked(5, 3));
        Check.dueThrow("it is one", IllegalArgumentException.class, () -> p.landmark(3));
        Check.dueThrow("no node 5", IndexOutOfBoundsException.class, () -> p.landmark(5));
        for (int v = 0; v < 3; v++) {
            Check.due("landmark", v + 2, p.landmark(v));
        }
        Check.dueThrow("a fifth", IllegalStateException.class, () -> p.landmark(4));
        Check.dueThrow("a fifth that is one", IllegalArgumentException.class, () -> p.landmark(0));
        Check.due("landmarks", 4, p.total(4));
    }

    private static void whatCannotBe() {
        RoutePlanner p = withNodes(4);
        p.arc(0, 1, 5);
        p.arc(0, 2, 1);
        p.arc(1, 3, 2);
        p.landmark(1);
        Check.due("1 leads to the landmark, 2 does not", 1L << 62, p.bound(2, 1));
        Check.due("0 leads there", 5, p.bound(0, 1));
        Check.due("the landmark leads to 3, but not to 2", 1L << 62, p.bound(3, 2));
        Check.due("it leads to 1 itself, and not to 2", 1L << 62, p.bound(1, 2));
        Check.due("from the landmark to 3", 2, p.bound(1, 3));
        Check.due("it does not lead to 0", 0, p.bound(0, 3));
        Check.due("landmarked goes by", 2, p.landmarked(0, 1));
        dueTrail("landmarked goes by", p, "0 1", "0 5", "0 1");
        Check.due("landmarked without a way", 1, p.landmarked(2, 1));
        Check.due("landmarked to 2", 2, p.landmarked(0, 2));
        p.arc(2, 1, BIG);
        p.arc(3, 1, BIG - 9);
        Check.due("long bound", BIG, p.bound(2, 1));
        Check.due("long bound from 3", BIG - 9, p.bound(3, 1));
    }

    private static void distances() {
        RoutePlanner p = withNodes(4);
        p.arc(0, 1, 1);
        p.arc(1, 2, 1);
        p.arc(0, 2, 2);
        p.arc(0, 2, 3);
        p.arc(1, 3, BIG);
        p.arc(3, 3, 0);
        Check.due("distance", 2, p.distance(0, 2));
        Check.due("arcs: of like lengths the lesser count", 1, p.arcs(0, 2));
        Check.due("long distance", BIG + 1, p.distance(0, 3));
        Check.due("to itself", 0, p.distance(3, 3));
        Check.due("no arcs to itself", 0, p.arcs(3, 3));
        Check.due("no way", -1, p.distance(2, 0));
        Check.due("no arcs", -1, p.arcs(2, 0));
        for (int[] st : new int[][] {{-1, 0}, {0, -1}, {4, 0}, {0, 4}}) {
            Check.due("distance of no node", -1, p.distance(st[0], st[1]));
            Check.due("arcs of no node", -1, p.arcs(st[0], st[1]));
        }
        p.weigh(2, 3);
        Check.due("a longer arc", 2, p.arcs(0, 2));
    }

    private static void potentials() {
        RoutePlanner p = withNodes(3);
        p.arc(0, 1, 5);
        p.arc(1, 2, 5);
        Check.due("potential was 0", 0, p.potential(0, 6));
        Check.due("inconsistent", 0, p.inconsistent());
        Check.due("potential was 6", 6, p.potential(0, 5));
        Check.due("consistent", -1, p.inconsistent());
        Check.due("potential below 0", 0, p.potential(2, -6));
        Check.due("inconsistent by the second arc", 1, p.inconsistent());
        Check.dueThrow("node 3", IndexOutOfBoundsException.class, () -> p.potential(3, 1L << 61));
        Check.dueThrow("2^60 + 1", IllegalArgumentException.class, () -> p.potential(1, (1L << 60) + 1));
        Check.dueThrow("-2^60 - 1", IllegalArgumentException.class, () -> p.potential(1, -(1L << 60) - 1));
        Check.due("2^60", 0, p.potential(1, 1L << 60));
        Check.due("-2^60", 1L << 60, p.potential(1, -(1L << 60)));
        p.arc(0, 0, BIG);
        Check.dueThrow("sum beyond", ArithmeticException.class, () -> p.potential(0, 1L << 60));
        Check.dueThrow("sum 2^62", ArithmeticException.class, () -> p.potential(0, (1L << 60) - 16));
        Check.due("sum 2^62 - 1", 5, p.potential(0, 17 - (1L << 60)));
        Check.dueThrow("an arc more", ArithmeticException.class, () -> p.arc(0, 0, 1));
        Check.due("the potential of a node that comes", 3, p.node(0, 0));
        Check.due("is 0", 0, p.potential(3, 0));
    }

    private static void straightPotentials() {
        RoutePlanner p = new RoutePlanner();
        p.node(0, 0);
        p.node(3, -4);
        p.node(-1000000, 1000000);
        p.arc(0, 1, 7);
        p.arc(1, 0, 6);
        Check.due("straight towards 1", 1, p.straight(1, 1));
        Check.due("straight of 0", 1, p.straight(0, 0));
        Check.due("straight towards 0 needs 7", 0, p.straight(0, 1));
        Check.due("nothing happened", 0, p.potential(1, 0));
        p.weigh(1, 7);
        Check.due("straight", 1, p.straight(0, 1));
        Check.due("potential of 1", 7, p.potential(1, 7));
        Check.due("potential of 2", 2000000, p.potential(2, 2000000));
        Check.due("potential of 0", 0, p.potential(0, 0));
        Check.due("twice is too much", 0, p.straight(0, 2));
        p.weigh(0, 7000000);
        p.weigh(1, 7000000);
        Check.due("the most", 1, p.straight(0, 1000000));
        Check.due("potential of 2", 2000000000000L, p.potential(2, 0));
        Check.dueThrow("k is -1", IllegalArgumentException.class, () -> p.straight(0, -1));
        Check.dueThrow("k is 1000001", IllegalArgumentException.class, () -> p.straight(0, 1000001));
        Check.dueThrow("no node", IndexOutOfBoundsException.class, () -> p.straight(3, -1));
        p.arc(0, 0, BIG);
        p.arc(0, 0, BIG - 14000000 - 7000000 - 2000000);
        Check.due("the sum would be 2^62", 0, p.straight(0, 1000000));
        Check.due("nothing happened to 2", 0, p.potential(2, 0));
        Check.due("7000000 and 2000000 are left", 0, p.straight(0, 5));
        Check.due("4000028 more", 1, p.straight(0, 4));
        Check.due("all of it", 1, p.straight(0, 0));
        p.weigh(2, BIG);
        p.weigh(3, BIG - 14000000 - 2000007);
        Check.due("the sum would be 2^62 just so", 0, p.straight(0, 1));
        p.weigh(3, BIG - 14000000 - 2000008);
        Check.due("one less", 1, p.straight(0, 1));
        Check.due("from 1 there are 5 more", 0, p.straight(1, 1));
        p.weigh(3, 0);
        Check.due("straight to another place", 1, p.straight(1, 1));
        Check.due("from 0 to 1", 7, p.potential(0, 0));
        Check.due("from 1 to 1", 0, p.potential(1, 0));
        Check.due("from 2 to 1", 2000007, p.potential(2, 0));
    }

    private static void reachedNodes() {
        RoutePlanner p = line();
        int[] due = {1, 2, 3, -1};
        for (int i = 0; i < due.length; i++) {
            Check.due("reached(1, " + i + ")", due[i], p.reached(1, i));
        }
        for (int v = 0; v < 5; v++) {
            Check.due("reached(4, " + v + ")", v, p.reached(4, v));
        }
        Check.due("reached(4, 5)", -1, p.reached(4, 5));
        Check.due("reached(1, -1)", -1, p.reached(1, -1));
        Check.due("reached(5, 0)", -1, p.reached(5, 0));
        Check.due("reached(-1, 0)", -1, p.reached(-1, 0));
    }

    public static void main(String[] args) {
        searchOrder();
        forgetting();
        goalSearch();
        bothWays();
        bothMeetBesideTheBestWay();
        byLandmarks();
        whatCannotBe();
        distances();
        potentials();
        straightPotentials();
        reachedNodes();
        Check.finish("SearchTest");
    }
}
