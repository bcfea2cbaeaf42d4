/** Promises 26 to 39: factors, the hierarchies and what they hold, queries and their walks. */
public final class HierarchyTest {
    private static RoutePlanner withNodes(int many) {
        RoutePlanner p = new RoutePlanner();
        for (int v = 0; v < many; v++) {
            p.node(v, 0);
        }
        return p;
    }

    private static void tellOrder(RoutePlanner p, int... row) {
        for (int v : row) {
            p.order(v);
        }
    }

    private static void dueRanks(String what, RoutePlanner p, String want) {
        StringBuilder row = new StringBuilder();
        for (int i = 0; i < p.total(0); i++) {
            row.append(p.ranked(i)).append(' ');
        }
        Check.due(what, want, row.toString().trim());
        Check.due(what + ", behind the last", -1, p.ranked(p.total(0)));
        Check.due(what + ", ahead of the first", -1, p.ranked(-1));
    }

    /** Each edge as other end, count, node it is over, arc and length, the edges by commas. */
    private static void dueEdges(RoutePlanner p, int v, boolean down, String want) {
        StringBuilder row = new StringBuilder();
        int i = 0;
        for (; p.edge(v, down, i, 0) != -1; i++) {
            row.append(i == 0 ? "" : ", ");
            for (int what = 0; what <= 3; what++) {
                row.append(p.edge(v, down, i, what)).append(' ');
            }
            row.append(p.edgeLength(v, down, i));
        }
        String name = (down ? "DOWN" : "UP") + " edges of " + v;
        Check.due(name, want, row.toString());
        Check.due(name + ", length behind the last", -1, p.edgeLength(v, down, i));
        Check.due(name + ", what -1", -1, p.edge(v, down, 0, -1));
        Check.due(name + ", what 4", -1, p.edge(v, down, 0, 4));
        Check.due(name + ", ahead of the first", -1, p.edge(v, down, -1, 0));
        Check.due(name + ", length ahead of the first", -1, p.edgeLength(v, down, -1));
    }

    private static void dueRelaxed(String what, RoutePlanner p, String want) {
        StringBuilder row = new StringBuilder();
        int i = 0;
        for (; p.relaxed(i, 0) != -1; i++) {
            row.append(p.relaxed(i, 0)).append('-').append(p.relaxed(i, 1)).append('-').append(p.relaxed(i, 2));
            row.append(' ');
        }
        Check.due(what, want, row.toString().trim());
        Check.due(what + ", what 2 behind the last", -1, p.relaxed(i, 2));
        Check.due(what + ", what 3", -1, p.relaxed(0, 3));
        Check.due(what + ", what -1", -1, p.relaxed(0, -1));
        Check.due(what + ", ahead of the first", -1, p.relaxed(-1, 2));
    }

    private static void dueWalk(String what, RoutePlanner p, String told, long found, String steps) {
        StringBuilder row = new StringBuilder();
        for (int k = 0; k <= 4; k++) {
            row.append(p.told(k)).append(' ');
        }
        Check.due(what + ", told", told, row.toString().trim());
        Check.due(what + ", told(5)", -1, p.told(5));
        Check.due(what + ", told(-1)", -1, p.told(-1));
        Check.due(what + ", found", found, p.found());
        StringBuilder arcs = new StringBuilder();
        int i = 0;
        for (; p.step(i) != -1; i++) {
            arcs.append(p.step(i)).append(' ');
        }
        Check.due(what + ", steps", steps, arcs.toString().trim());
        Check.due(what + ", step(-1)", -1, p.step(-1));
        Check.due(what + ", step(1000)", -1, p.step(1000));
    }

    /** 0 - 1 - 2, roads of weights 1 and 2: arcs 0 and 1, 2 and 3. */
    private static RoutePlanner path() {
        RoutePlanner p = withNodes(3);
        p.arc(0, 1, 1);
        p.arc(1, 0, 1);
        p.arc(1, 2, 2);
        p.arc(2, 1, 2);
        return p;
    }

    private static void factorsAndValues() {
        RoutePlanner p = new RoutePlanner();
        GraphTest.starOf(p);
        Check.due("4, 2, 1 at first", 0, p.prepare());
        dueRanks("4, 2, 1", p, "1 2 3 0");
        Check.due("factors", 1, p.factors(0, 2, 0));
        Check.due("prepare", 6, p.prepare());
        dueRanks("0, 2, 0", p, "0 1 2 3");
        Check.due("factors 0", 1, p.factors(0, 0, 0));
        p.prepare();
        dueRanks("0, 0, 0", p, "0 1 2 3");
        Check.due("factors 9", 1, p.factors(9, 9, 9));
        Check.due("prepare", 0, p.prepare());
        int[][] refused = {{-1, 0, 0}, {10, 0, 0}, {0, -1, 0}, {0, 10, 0}, {0, 0, -1}, {0, 0, 10}};
        for (int[] f : refused) {
            Check.due("factors beyond", 0, p.factors(f[0], f[1], f[2]));
        }
        Check.due("nothing happened", 0, p.prepare());
        dueRanks("9, 9, 9", p, "1 2 3 0");
    }

    /** Some graph that a number makes, and the ranks of its nodes; no factors told where the row is empty. */
    private static String ranksOf(int number, int... f) {
        RoutePlanner p = withNodes(9);
        int k = number;
        for (int a = 0; a < 20; a++) {
            k = (k * 1103515245 + 12345) & Integer.MAX_VALUE;
            p.arc(k / 65536 % 9, k / 65536 / 9 % 9, k / 65536 % 7);
        }
        if (f.length > 0) {
            p.factors(f[0], f[1], f[2]);
        }
        p.prepare();
        StringBuilder row = new StringBuilder();
        for (int i = 0; i < 9; i++) {
            row.append(p.ranked(i));
        }
        return row.toString();
    }

    private static void factorsAtFirst() {
        int[][] others = {{3, 2, 1}, {5, 2, 1}, {4, 1, 1}, {4, 3, 1}, {4, 2, 0}, {4, 2, 2}};
        int[] unlike = new int[others.length];
        for (int number = 0; number < 200; number++) {
            String atFirst = ranksOf(number);
            Check.due("ranks of graph " + number, ranksOf(number, 4, 2, 1), atFirst);
            for (int k = 0; k < others.length; k++) {
                unlike[k] += atFirst.equals(ranksOf(number, others[k])) ? 0 : 1;
            }
        }
        for (int k = 0; k < others.length; k++) {
            Check.due("other factors make other ranks, " + k, 1, unlike[k] > 0 ? 1 : 0);
        }
    }

    private static void contractedNeighboursWeigh() {
        RoutePlanner p = withNodes(4);
        p.arc(0, 2, 1);
        p.arc(2, 0, 1);
        p.arc(1, 3, 1);
        p.factors(0, 0, 1);
        p.prepare();
        dueRanks("each once: 2 and 3 have one each in the end", p, "0 1 2 3");
        RoutePlanner q = withNodes(4);
        q.arc(0, 1, 1);
        q.arc(1, 0, 1);
        q.arc(3, 1, 1);
        q.factors(0, 1, 1);
        Check.due("from 3 to 0 over 1", 1, q.prepare());
        dueRanks("1 has 3 edges; then 0 and 3 have one edge and one contracted, 2 none", q, "1 0 2 3");
    }

    private static void valuesChangeByTurns() {
        RoutePlanner p = path();
        p.node(0, 0);
        Check.due("prepare", 0, p.prepare());
        dueRanks("values -4 0 -4 0; then -3 -4 0; then 2 0", p, "0 2 3 1");
        p.factors(1, 2, 9);
        Check.due("prepare", 2, p.prepare());
        dueRanks("values -4 -6 -4 0; then 5 5 0", p, "1 3 0 2");
    }

    private static void toldOrder() {
        RoutePlanner p = path();
        Check.dueThrow("order(3)", IndexOutOfBoundsException.class, () -> p.order(3));
        Check.dueThrow("order(-1)", IndexOutOfBoundsException.class, () -> p.order(-1));
        Check.due("order", 1, p.order(1));
        Check.dueThrow("order(1) again", IllegalArgumentException.class, () -> p.order(1));
        Check.due("order", 2, p.order(2));
        Check.dueThrow("0 lacks", IllegalStateException.class, () -> p.prepareTold());
        Check.due("the order stays", 2, p.total(5));
        Check.due("no prepare", 0, p.total(3));
        Check.due("order", 3, p.order(0));
        Check.due("shortcuts", 2, p.prepareTold());
        Check.due("the order is empty", 0, p.total(5));
        Check.due("prepares", 1, p.total(3));
        Check.due("ready", 1, p.ready());
        dueRanks("told", p, "1 2 0");
        dueEdges(p, 1, false, "0 1 -1 1 1, 2 1 -1 2 2");
        dueEdges(p, 1, true, "0 1 -1 0 1, 2 1 -1 3 2");
        dueEdges(p, 2, false, "0 2 1 -1 3");
        dueEdges(p, 2, true, "0 2 1 -1 3");
        dueEdges(p, 0, false, "");
        dueEdges(p, 0, true, "");
        dueEdges(p, 3, true, "");
        dueEdges(p, -1, false, "");
        Check.due("edges", 6, p.total(6));
        Check.due("shortcuts", 2, p.total(7));
        Check.dueThrow("the order is empty now", IllegalStateException.class, () -> p.prepareTold());
        RoutePlanner none = new RoutePlanner();
        Check.due("no nodes, all in the order", 0, none.prepareTold());
        Check.due("ready", 1, none.ready());
    }

    private static void firstEdges() {
        RoutePlanner p = withNodes(2);
        p.arc(0, 1, 5);
        p.arc(0, 1, 3);
        p.arc(0, 1, 3);
        p.arc(0, 0, 0);
        p.arc(1, 0, 9);
        tellOrder(p, 0, 1);
        p.prepareTold();
        dueEdges(p, 0, false, "1 1 -1 1 3");
        dueEdges(p, 0, true, "1 1 -1 4 9");
        Check.due("edges", 2, p.total(6));
    }

    /** Over 1 from 0 to 2 in 4 and two arcs; what goes from 0 to 2 else is told by the arcs. */
    private static int shortcutsBeside(int... arcs) {
        RoutePlanner p = withNodes(5);
        p.arc(0, 1, 2);
        p.arc(1, 2, 2);
        for (int i = 0; i < arcs.length; i += 3) {
            p.arc(arcs[i], arcs[i + 1], arcs[i + 2]);
        }
        tellOrder(p, 1, 0, 2, 3, 4);
        return p.prepareTold();
    }

    private static void witnesses() {
        Check.due("no witness", 1, shortcutsBeside());
        Check.due("an arc of like length and less count", 0, shortcutsBeside(0, 2, 4));
        Check.due("a longer arc", 1, shortcutsBeside(0, 2, 5));
        Check.due("a walk just as good", 0, shortcutsBeside(0, 3, 1, 3, 2, 3));
        Check.due("a walk of more arcs", 1, shortcutsBeside(0, 3, 1, 3, 4, 1, 4, 2, 2));
        Check.due("a shorter walk of more arcs", 0, shortcutsBeside(0, 3, 1, 3, 4, 1, 4, 2, 1));
        Check.due("a longer walk", 1, shortcutsBeside(0, 3, 2, 3, 2, 3));
        Check.due("a walk through the node itself", 2, shortcutsBeside(0, 3, 0, 3, 1, 2));
    }

    /** A shortcut in place of an arc, and a shortcut over a shortcut. */
    private static void shortcutsReplace() {
        RoutePlanner p = withNodes(4);
        p.arc(0, 1, 1);
        p.arc(1, 2, 1);
        p.arc(0, 2, 3);
        p.arc(2, 3, 1);
        tellOrder(p, 1, 2, 3, 0);
        Check.due("shortcuts", 2, p.prepareTold());
        dueEdges(p, 2, true, "0 2 1 -1 2");
        dueEdges(p, 3, true, "0 3 2 -1 3");
        Check.due("edges", 5, p.total(6));
        Check.due("shortcuts that are edges", 2, p.total(7));
        Check.due("query", 1, p.query(0, 3));
        dueRelaxed("relaxed", p, "0-3-0");
        dueWalk("unpacked twice", p, "0 3 1 2 1", 3, "0 1 3");
    }

    /** Two shortcuts from 0 to 3, the later one in place of the other: both came to be edges, one is. */
    private static void shortcutsThatWereReplaced() {
        RoutePlanner p = withNodes(4);
        p.arc(0, 1, 5);
        p.arc(1, 3, 5);
        p.arc(0, 2, 1);
        p.arc(2, 3, 1);
        tellOrder(p, 1, 2, 0, 3);
        Check.due("2 leads shorter", 1, p.prepareTold());
        p.arc(2, 1, 1);
        p.weigh(3, 20);
        tellOrder(p, 1, 2, 0, 3);
        Check.due("over 1 from 0 in 10, from 2 in 6; over 2 in 7", 3, p.prepareTold());
        Check.due("edges", 6, p.total(6));
        Check.due("shortcuts that are edges", 2, p.total(7));
        p.query(0, 3);
        dueWalk("over both", p, "3 3 2 1 1", 7, "2 4 1");
    }

    private static void remaking() {
        RoutePlanner p = path();
        Check.due("remake without ranks", 0, p.remake());
        dueRanks("by numbers", p, "0 1 2");
        tellOrder(p, 1, 2, 0);
        p.prepareTold();
        p.weigh(0, 7);
        Check.due("gone", 0, p.ready());
        Check.due("ranked without a hierarchy", -1, p.ranked(0));
        Check.due("edge without a hierarchy", -1, p.edge(1, false, 0, 0));
        Check.due("edgeLength without a hierarchy", -1, p.edgeLength(1, false, 0));
        p.node(0, 0);
        p.node(0, 0);
        p.arc(4, 0, 1);
        Check.due("remake", 2, p.remake());
        dueRanks("the latest, then new ones by numbers", p, "1 2 0 3 4");
        Check.due("made by the new weights", 9, p.edgeLength(2, true, 0));
        Check.due("remake again", 2, p.remake());
        dueRanks("the same", p, "1 2 0 3 4");
    }

    private static void preparesEnd() {
        RoutePlanner p = path();
        for (int k = 0; k < 8; k++) {
            p.prepare();
            p.remake();
            tellOrder(p, 1, 2, 0);
            p.prepareTold();
        }
        Check.due("prepares", 24, p.total(3));
        p.query(0, 2);
        Check.dueThrow("prepare", UnsupportedOperationException.class, () -> p.prepare());
        Check.dueThrow("remake", UnsupportedOperationException.class, () -> p.remake());
        Check.dueThrow("prepareTold without an order", IllegalStateException.class, () -> p.prepareTold());
        tellOrder(p, 0, 1, 2);
        Check.dueThrow("prepareTold", UnsupportedOperationException.class, () -> p.prepareTold());
        Check.due("the order stays", 3, p.total(5));
        Check.due("the hierarchy stays", 1, p.ready());
        Check.due("the query stays", 3, p.found());
        p.clear();
        Check.dueThrow("prepare after clear", UnsupportedOperationException.class, () -> p.prepare());
    }

    private static void queries() {
        RoutePlanner p = path();
        Check.due("told ahead of any", -1, p.told(2));
        Check.dueThrow("no hierarchy", IllegalStateException.class, () -> p.query(0, 2));
        Check.dueThrow("no node 3", IndexOutOfBoundsException.class, () -> p.query(3, 2));
        tellOrder(p, 1, 0, 2);
        p.prepareTold();
        dueWalk("ahead of any", p, "-1 -1 -1 -1 -1", -1, "");
        Check.due("query", 1, p.query(0, 2));
        dueRelaxed("from 0 to 2", p, "0-2-1");
        dueWalk("from 0 to 2", p, "2 2 2 1 1", 3, "0 2");
        Check.due("query", 4, p.query(1, 0));
        dueRelaxed("from 1 to 0", p, "1-0-1 1-2-1 0-2-1 2-0-0");
        dueWalk("from 1 to 0", p, "0 1 3 2 0", 1, "1");
        Check.due("query of one node", 6, p.query(1, 1));
        dueRelaxed("from 1 to 1", p, "1-0-1 1-2-1 0-2-1 0-1-0 2-1-0 2-0-0");
        dueWalk("from 1 to 1", p, "1 0 3 3 0", 0, "");
        p.query(2, 0);
        dueWalk("from 2 to 0", p, "2 2 1 2 1", 3, "3 1");
        p.query(1, 1);
        Check.dueThrow("no node -1", IndexOutOfBoundsException.class, () -> p.query(0, -1));
        Check.due("the latest stays", 1, p.told(0));
        p.search(2);
        p.potential(0, 0);
        p.landmark(0);
        Check.due("a search forgets nothing", 1, p.told(0));
        p.remake();
        dueWalk("made anew", p, "-1 -1 -1 -1 -1", -1, "");
        Check.due("relaxed is forgotten", -1, p.relaxed(0, 0));
    }

    private static void queriesWithoutWay() {
        RoutePlanner p = withNodes(3);
        p.arc(0, 1, 1);
        p.prepare();
        p.query(0, 1);
        Check.due("query", 1, p.query(0, 2));
        dueWalk("no way", p, "-1 -1 2 1 -1", -1, "");
        dueRelaxed("no way", p, "0-1-1");
        p.query(0, 1);
        p.node(0, 0);
        dueWalk("forgotten by a node", p, "-1 -1 -1 -1 -1", -1, "");
        p.prepare();
        p.query(0, 1);
        p.arc(0, 1, 9);
        dueWalk("forgotten by an arc", p, "-1 -1 -1 -1 -1", -1, "");
        p.prepare();
        p.query(0, 1);
        p.weigh(0, 2);
        dueWalk("forgotten by a weight", p, "-1 -1 -1 -1 -1", -1, "");
        p.prepare();
        p.query(0, 1);
        Check.due("found", 2, p.found());
        p.clear();
        dueWalk("forgotten by clear()", p, "-1 -1 -1 -1 -1", -1, "");
    }

    /** All ways from 0 to 5 are as good: the top, and each edge, is that of the least node. */
    private static void queriesOfLikeWays() {
        RoutePlanner p = withNodes(6);
        p.arc(0, 2, 1);
        p.arc(0, 1, 1);
        p.arc(2, 3, 1);
        p.arc(1, 3, 1);
        p.arc(2, 4, 1);
        p.arc(1, 4, 1);
        p.arc(4, 5, 1);
        p.arc(3, 5, 1);
        tellOrder(p, 0, 5, 2, 1, 3, 4);
        p.prepareTold();
        Check.due("query", 8, p.query(0, 5));
        dueWalk("the least nodes", p, "3 3 5 3 0", 3, "1 3 7");
        dueRelaxed("by ranks, then ends", p, "0-1-1 0-2-1 2-3-1 2-4-1 1-3-1 1-4-1 3-5-0 4-5-0");
        tellOrder(p, 5, 3, 4, 0, 2, 1);
        p.prepareTold();
        p.query(0, 5);
        dueWalk("the least nodes down", p, "1 3 3 5 0", 3, "1 3 7");
    }

    /** 24 nodes in a line: a shortcut over all that is between, then 23 edges up, then 23 down. */
    private static void longWays() {
        RoutePlanner p = withNodes(24);
        StringBuilder all = new StringBuilder();
        for (int v = 0; v < 23; v++) {
            p.arc(v, v + 1, 1L << 57);
            all.append(v).append(' ');
        }
        String steps = all.toString().trim();
        for (int v = 1; v < 23; v++) {
            p.order(v);
        }
        tellOrder(p, 0, 23);
        Check.due("22 shortcuts", 22, p.prepareTold());
        Check.due("one edge", 1, p.query(0, 23));
        dueWalk("one shortcut", p, "23 23 2 1 1", 23L << 57, steps);
        for (int v = 0; v < 24; v++) {
            p.order(v);
        }
        Check.due("no shortcuts", 0, p.prepareTold());
        Check.due("23 edges", 23, p.query(0, 23));
        dueWalk("up", p, "23 23 24 1 0", 23L << 57, steps);
        for (int v = 23; v >= 0; v--) {
            p.order(v);
        }
        p.prepareTold();
        Check.due("23 edges", 23, p.query(0, 23));
        dueWalk("down", p, "0 23 1 24 0", 23L << 57, steps);
        for (int v = 0; v < 12; v++) {
            tellOrder(p, v, 23 - v);
        }
        p.prepareTold();
        p.query(0, 23);
        dueWalk("up and down", p, "12 23 13 12 0", 23L << 57, steps);
        p.query(23, 0);
        dueWalk("no way back", p, "-1 -1 1 1 -1", -1, "");
    }

    /** Every node has an arc to each of the 12 behind it. */
    private static void manyEdges() {
        StringBuilder arcs = new StringBuilder();
        for (int v = 0; v < 24; v++) {
            for (int k = 1; k <= 12; k++) {
                arcs.append("arc ").append(v).append(' ').append((v + k) % 24).append(" 1\n");
            }
        }
        int half = arcs.indexOf("arc 12 ");
        for (int s = 0; s < 24; s++) {
            RoutePlanner p = withNodes(24);
            Check.readText(p, arcs.substring(0, half));
            Check.readText(p, arcs.substring(half));
            Check.due("arcs", 288, p.total(1));
            p.prepare();
            for (int t = 0; t < 24; t++) {
                p.query(s, t);
                Check.due("length from " + s + " to " + t, p.distance(s, t), p.found());
                Check.due("arcs from " + s + " to " + t, p.arcs(s, t), p.told(1));
            }
        }
    }

    /** Roads from 0 to all others, and 0 contracted first: then each node has edges with each. */
    private static void allEdges() {
        RoutePlanner p = withNodes(24);
        for (int v = 1; v < 24; v++) {
            p.arc(0, v, 1);
            p.arc(v, 0, 1);
        }
        Check.due("shortcuts", 23 * 22, p.remake());
        Check.due("edges", 24 * 23, p.total(6));
        Check.due("shortcuts that are edges", 23 * 22, p.total(7));
        Check.due("all relaxed", 24 * 23, p.query(0, 0));
        Check.due("the last UP edge", 23, p.relaxed(275, 1));
        Check.due("is one", 1, p.relaxed(275, 2));
        Check.due("the last DOWN edge", 23, p.relaxed(551, 0));
        Check.due("is one", 0, p.relaxed(551, 2));
        Check.due("no edge more", -1, p.relaxed(552, 0));
        p.query(23, 22);
        dueWalk("over 0", p, "23 2 1 2 1", 2, "45 42");
    }

    public static void main(String[] args) {
        factorsAndValues();
        factorsAtFirst();
        contractedNeighboursWeigh();
        valuesChangeByTurns();
        toldOrder();
        firstEdges();
        witnesses();
        shortcutsReplace();
        shortcutsThatWereReplaced();
        remaking();
        preparesEnd();
        queries();
        queriesWithoutWay();
        queriesOfLikeWays();
        longWays();
        manyEdges();
        allEdges();
        Check.finish("HierarchyTest");
    }
}
