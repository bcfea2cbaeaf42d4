/** Promises 26 to 39 at their boundaries. */
public final class HierarchyBoundsTest {
    private static final int[] NO_NODES = {Integer.MIN_VALUE, -1, 5, 6, 23, 24, Integer.MAX_VALUE};
    private static final int[] FAR = {Integer.MIN_VALUE, -2, -1, 24, 600, Integer.MAX_VALUE};

    private static RoutePlanner withNodes(int many) {
        RoutePlanner p = new RoutePlanner();
        Check.readText(p, "node 0 0\n".repeat(many));
        return p;
    }

    private static void tellOrder(RoutePlanner p, int... row) {
        for (int v : row) {
            p.order(v);
        }
    }

    private static String ranks(RoutePlanner p) {
        StringBuilder row = new StringBuilder();
        for (int i = 0; i < p.total(0); i++) {
            row.append(i == 0 ? "" : " ").append(p.ranked(i));
        }
        return row.toString();
    }

    /** 0 - 1 - 2, roads of weights 1 and 2: arcs 0 and 1, 2 and 3. */
    private static RoutePlanner path() {
        RoutePlanner p = withNodes(3);
        Check.readText(p, "road 0 1 1\nroad 1 2 2\n");
        return p;
    }

    // ---- 26 factors

    private static void factorsBeyond() {
        for (int f : new int[] {Integer.MIN_VALUE, -1, 10, Integer.MAX_VALUE}) {
            Twins.noChange("26 factors(" + f + ", 0, 0)", 0, Scene::midst, p -> p.factors(f, 0, 0));
            Twins.noChange("26 factors(9, " + f + ", 9)", 0, Scene::midst, p -> p.factors(9, f, 9));
            Twins.noChange("26 factors(9, 0, " + f + ")", 0, Scene::midst, p -> p.factors(9, 0, f));
            Twins.noChange("26 factors of a new one, " + f, 0, p -> { }, p -> p.factors(0, 9, f));
        }
    }

    private static void factorsWithin() {
        for (int f : new int[] {0, 1, 8, 9}) {
            RoutePlanner p = new RoutePlanner();
            Check.due("26 factors(" + f + ", 0, 0)", 1, p.factors(f, 0, 0));
            Check.due("26 factors(0, " + f + ", 0)", 1, p.factors(0, f, 0));
            Check.due("26 factors(0, 0, " + f + ")", 1, p.factors(0, 0, f));
            Check.due("26 factors(" + f + ", " + f + ", " + f + ")", 1, p.factors(f, f, f));
        }
        Twins.noChange("26 factors as they were", 1, Scene::midst, p -> p.factors(1, 2, 3));
    }

    /** The star's middle has 6 shortcuts and 6 edges, a leaf no shortcut and 2 edges. */
    private static void factorsAtTheirLimits() {
        int[][] factors = {{9, 9, 0}, {0, 9, 0}, {9, 0, 0}, {1, 9, 9}, {8, 9, 9}, {7, 9, 0}, {6, 9, 0}, {5, 9, 0}};
        int[] first = {1, 0, 1, 0, 1, 1, 0, 0};
        for (int k = 0; k < factors.length; k++) {
            int[] f = factors[k];
            RoutePlanner p = new RoutePlanner();
            GraphTest.starOf(p);
            p.factors(f[0], f[1], f[2]);
            p.prepare();
            Check.due("26 factors " + f[0] + " " + f[1] + " " + f[2] + ": the first", first[k], p.ranked(0));
        }
    }

    // ---- 27 prepare

    private static void prepareNothing() {
        RoutePlanner p = new RoutePlanner();
        Check.due("27 prepare of no nodes", 0, p.prepare());
        Check.due("31 ready", 1, p.ready());
        Check.due("41 total(3)", 1, p.total(3));
        Check.due("41 total(6)", 0, p.total(6));
        Check.due("32 ranked(0)", -1, p.ranked(0));
        Check.dueThrow("35 query(0, 0)", IndexOutOfBoundsException.class, () -> p.query(0, 0));
        RoutePlanner one = withNodes(1);
        one.arc(0, 0, 5);
        Check.due("27 prepare of one node", 0, one.prepare());
        Check.due("32 ranked(0)", 0, one.ranked(0));
        Check.due("41 total(6): an arc to itself is no edge", 0, one.total(6));
        Check.due("35 query(0, 0)", 0, one.query(0, 0));
        Check.due("36 told(0)", 0, one.told(0));
        Check.due("36 told(1)", 0, one.told(1));
        Check.due("37 found", 0, one.found());
    }

    private static void preparesUpToTheLimit() {
        RoutePlanner p = path();
        for (int k = 1; k <= 24; k++) {
            if (k % 3 == 0) {
                p.prepare();
            } else if (k % 3 == 1) {
                p.remake();
            } else {
                tellOrder(p, 2, 1, 0);
                p.prepareTold();
            }
            Check.due("41 total(3)", k, p.total(3));
        }
        Check.dueThrow("27 prepare, the 25th", UnsupportedOperationException.class, p::prepare);
        Check.due("41 total(3) stays", 24, p.total(3));
        Check.due("31 ready", 1, p.ready());
        Check.due("35 query goes on", 1, p.query(0, 2) > 0 ? 1 : 0);
        p.weigh(0, 5);
        Check.dueThrow("30 remake, the 25th", UnsupportedOperationException.class, p::remake);
        Check.due("31 ready", 0, p.ready());
    }

    /** The 24th of each kind is made, the 25th is not, whatever kinds went ahead. */
    private static void theLastPrepareOfEachKind() {
        Twins.CallOn[] kinds = {RoutePlanner::prepare, RoutePlanner::remake, p -> {
            tellOrder(p, 1, 2, 0);
            return p.prepareTold();
        }};
        String[] due = {"0 2 1", "0 2 1", "1 2 0"};
        for (int k = 0; k < kinds.length; k++) {
            RoutePlanner p = path();
            for (int made = 0; made < 22; made++) {
                p.prepare();
            }
            for (int made = 23; made <= 24; made++) {
                p.weigh(0, made);
                kinds[k].on(p);
                Check.due("41 total(3), kind " + k, made, p.total(3));
                Check.due("31 ready, kind " + k, 1, p.ready());
                Check.due("32 ranked, kind " + k, due[k], ranks(p));
            }
            int kind = k;
            Check.dueThrow("the 25th, kind " + k, UnsupportedOperationException.class, () -> kinds[kind].on(p));
            Check.due("41 total(3) stays, kind " + k, 24, p.total(3));
            Check.due("32 ranked stays, kind " + k, due[k], ranks(p));
        }
    }

    private static void preparesBeyondTheLimit() {
        Twins.refused("27 prepare", UnsupportedOperationException.class, Scene::fullOfPrepares, RoutePlanner::prepare);
        Twins.refused("30 remake", UnsupportedOperationException.class, Scene::fullOfPrepares, RoutePlanner::remake);
        Twins.refused("29 prepareTold of all nodes", UnsupportedOperationException.class, p -> {
            Scene.fullOfPrepares(p);
            tellOrder(p, 4, 3, 1);
        }, RoutePlanner::prepareTold);
        Twins.refused("29 prepareTold of some nodes", IllegalStateException.class, Scene::fullOfPrepares,
                RoutePlanner::prepareTold);
    }

    // ---- 28 order, 29 prepareTold

    private static void ordersRefused() {
        for (int v : NO_NODES) {
            Twins.refused("28 order(" + v + ")", IndexOutOfBoundsException.class, Scene::midst, p -> p.order(v));
        }
        for (int v : new int[] {0, 2}) {
            Twins.refused("28 order(" + v + ") again", IllegalArgumentException.class, Scene::midst, p -> p.order(v));
        }
        Twins.refused("28 order of one more than all", IllegalArgumentException.class, p -> {
            Scene.midst(p);
            tellOrder(p, 4, 3, 1);
        }, p -> p.order(1));
    }

    private static void ordersUpToAllNodes() {
        RoutePlanner p = withNodes(24);
        for (int k = 0; k < 24; k++) {
            int v = k * 5 % 24;
            Check.dueThrow("29 prepareTold of " + k + " of 24", IllegalStateException.class, p::prepareTold);
            Check.due("28 order(" + v + ")", k + 1, p.order(v));
            Check.due("41 total(5)", k + 1, p.total(5));
        }
        Check.dueThrow("28 order(24)", IndexOutOfBoundsException.class, () -> p.order(24));
        Check.dueThrow("28 order(0) again", IllegalArgumentException.class, () -> p.order(0));
        Check.due("41 total(3): none was made", 0, p.total(3));
        Check.due("29 prepareTold", 0, p.prepareTold());
        Check.due("41 total(5): the order is empty", 0, p.total(5));
        for (int k = 0; k < 24; k++) {
            Check.due("32 ranked(" + k + ")", k * 5 % 24, p.ranked(k));
        }
        Check.due("28 order begins anew", 1, p.order(0));
    }

    private static void prepareToldRefused() {
        Twins.refused("29 prepareTold of 2 of 5", IllegalStateException.class, Scene::midst,
                RoutePlanner::prepareTold);
        Twins.refused("29 prepareTold of 4 of 5", IllegalStateException.class, p -> {
            Scene.midst(p);
            tellOrder(p, 4, 3);
        }, RoutePlanner::prepareTold);
        Twins.refused("29 prepareTold of all, and a node came", IllegalStateException.class, p -> {
            Scene.midst(p);
            tellOrder(p, 4, 3, 1);
            p.node(0, 0);
        }, RoutePlanner::prepareTold);
        Twins.refused("29 prepareTold without an order", IllegalStateException.class, p -> p.node(0, 0),
                RoutePlanner::prepareTold);
    }

    /** What is told stays whatever else is made, till it is used. */
    private static void orderStays() {
        RoutePlanner p = path();
        tellOrder(p, 1, 2);
        p.prepare();
        p.remake();
        p.arc(0, 2, 9);
        p.node(0, 0);
        tellOrder(p, 3, 0);
        Check.due("29 prepareTold", 2, p.prepareTold());
        Check.due("32 ranked", "1 2 3 0", ranks(p));
        RoutePlanner none = new RoutePlanner();
        Check.due("29 prepareTold of no nodes", 0, none.prepareTold());
        Check.due("31 ready", 1, none.ready());
        Check.due("41 total(3)", 1, none.total(3));
    }

    // ---- 30 remake

    private static void remakeWithoutRanks() {
        RoutePlanner none = new RoutePlanner();
        Check.due("30 remake of no nodes", 0, none.remake());
        Check.due("31 ready", 1, none.ready());
        RoutePlanner p = withNodes(24);
        Check.due("30 remake of 24", 0, p.remake());
        for (int v = 0; v < 24; v++) {
            Check.due("32 ranked: by numbers", v, p.ranked(v));
        }
        RoutePlanner cleared = path();
        tellOrder(cleared, 2, 1, 0);
        cleared.prepareTold();
        cleared.clear();
        Check.readText(cleared, "node 0 0\n".repeat(3));
        cleared.remake();
        Check.due("30 remake: the ranks are gone by clear()", "0 1 2", ranks(cleared));
    }

    private static void remakeByTheLatestRanks() {
        RoutePlanner p = path();
        tellOrder(p, 2, 0, 1);
        p.prepareTold();
        Check.readText(p, "node 0 0\nnode 0 0\n");
        p.remake();
        Check.due("30 remake: nodes that had none are behind", "2 0 1 3 4", ranks(p));
        p.node(0, 0);
        tellOrder(p, 5, 4, 3, 2, 1, 0);
        p.prepareTold();
        p.weigh(0, 3);
        p.weigh(0, 1);
        p.remake();
        Check.due("30 remake by the latest ones", "5 4 3 2 1 0", ranks(p));
        p.prepare();
        String byValues = ranks(p);
        p.remake();
        Check.due("30 remake by ranks of values", byValues, ranks(p));
    }

    private static void remakeOfAFullGraph() {
        RoutePlanner p = withNodes(23);
        for (int v = 22; v >= 0; v--) {
            p.order(v);
        }
        p.prepareTold();
        p.node(0, 0);
        p.remake();
        for (int i = 0; i < 23; i++) {
            Check.due("30 remake: rank " + i, 22 - i, p.ranked(i));
        }
        Check.due("30 remake: the last one", 23, p.ranked(23));
        Check.due("32 ranked(24)", -1, p.ranked(24));
    }

    // ---- 31 ready to 34 edgeLength

    private static void readyTillSomethingComes() {
        RoutePlanner p = path();
        Check.due("31 ready at first", 0, p.ready());
        Twins.CallOn[] calls = {q -> q.node(0, 0), q -> q.arc(0, 0, 0), q -> q.weigh(0, 7), q -> q.clear(),
            q -> Check.readText(q, "node 0 0"), q -> Check.readText(q, "arc 0 0 0"),
            q -> q.weigh(0, 1), q -> Check.readText(q, "#"), q -> Check.readText(q, "node 0 0\nx"),
            q -> q.potential(0, 5), q -> q.landmark(0), q -> q.order(0), q -> q.factors(0, 0, 0), q -> q.search(0)};
        for (int k = 0; k < calls.length; k++) {
            RoutePlanner q = path();
            q.prepare();
            Check.due("31 ready", 1, q.ready());
            calls[k].on(q);
            Check.due("31 ready after call " + k, k < 6 ? 0 : 1, q.ready());
            Check.due("41 total(6) after call " + k, k < 6 ? 0 : 4, q.total(6));
            Check.due("32 ranked(0) after call " + k, k < 6 ? -1 : 0, q.ranked(0));
            Check.due("33 edge after call " + k, k < 6 ? -1 : 1, q.edge(0, false, 0, 0));
            Check.due("34 edgeLength after call " + k, k < 6 ? -1 : 1, q.edgeLength(0, false, 0));
        }
    }

    private static void ranksAndEdgesOutside() {
        RoutePlanner p = path();
        p.remake();
        for (int i : FAR) {
            Check.due("32 ranked(" + i + ")", -1, p.ranked(i));
            Check.due("33 edge of node " + i, -1, p.edge(i, false, 0, 0));
            Check.due("33 edge of node " + i + ", down", -1, p.edge(i, true, 0, 0));
            Check.due("33 edge " + i, -1, p.edge(0, false, i, 0));
            Check.due("33 edge " + i + ", down", -1, p.edge(0, true, i, 0));
            Check.due("33 edge, what " + i, -1, p.edge(0, false, 0, i));
            Check.due("34 edgeLength of node " + i, -1, p.edgeLength(i, false, 0));
            Check.due("34 edgeLength " + i, -1, p.edgeLength(0, true, i));
        }
        Check.due("32 ranked(3) of 3", -1, p.ranked(3));
        Check.due("32 ranked(2) of 3", 2, p.ranked(2));
        Check.due("33 edge of node 3", -1, p.edge(3, false, 0, 0));
        Check.due("33 edge 1 of 1", -1, p.edge(0, false, 1, 0));
        Check.due("33 edge, what 4", -1, p.edge(0, false, 0, 4));
        Check.due("33 edge of the last rank", -1, p.edge(2, false, 0, 0));
        Check.due("33 edge of the last rank, down", -1, p.edge(2, true, 0, 0));
        Check.due("34 edgeLength of the last rank", -1, p.edgeLength(2, false, 0));
    }

    /** 23 edges up and 23 down at the first node of 24: the most that one can have. */
    private static void edgesOfOneNode() {
        RoutePlanner p = withNodes(24);
        StringBuilder text = new StringBuilder();
        for (int v = 0; v < 24; v++) {
            text.append(v == 12 ? "" : "road 12 " + v + " " + (v + 1) + "\n");
        }
        Check.readText(p, text.toString());
        p.order(12);
        for (int v = 23; v >= 0; v--) {
            if (v != 12) {
                p.order(v);
            }
        }
        Check.due("29 prepareTold: all pairs", 23 * 22, p.prepareTold());
        Check.due("41 total(6)", 24 * 23, p.total(6));
        Check.due("41 total(7)", 23 * 22, p.total(7));
        for (int i = 0; i < 23; i++) {
            int v = i < 12 ? i : i + 1;
            Check.due("33 edge " + i + ": other end", v, p.edge(12, false, i, 0));
            Check.due("33 edge " + i + ", down: other end", v, p.edge(12, true, i, 0));
            Check.due("33 edge " + i + ": arc", 2 * i, p.edge(12, false, i, 3));
            Check.due("33 edge " + i + ", down: arc", 2 * i + 1, p.edge(12, true, i, 3));
            Check.due("34 edgeLength " + i, v + 1, p.edgeLength(12, true, i));
        }
        Check.due("33 edge 23", -1, p.edge(12, false, 23, 0));
        Check.due("33 edge 23, down", -1, p.edge(12, true, 23, 0));
        Check.due("34 edgeLength 23", -1, p.edgeLength(12, false, 23));
        Check.due("33 edge: a shortcut's arc", -1, p.edge(23, false, 0, 3));
        Check.due("33 edge: a shortcut is over", 12, p.edge(23, false, 0, 2));
        Check.due("33 edge: a shortcut's count", 2, p.edge(23, false, 0, 1));
        Check.due("34 edgeLength of a shortcut", 25, p.edgeLength(23, false, 0));
        Check.due("33 edge: an arc is over none", -1, p.edge(12, false, 0, 2));
        Check.due("33 edge: the last but one of 22", 22, p.edge(23, true, 21, 0));
        Check.due("33 edge: no 23rd of 22", -1, p.edge(23, true, 22, 0));
    }

    /** The least weight, and of like ones the least number. */
    private static void edgesOfSeveralArcs() {
        RoutePlanner p = withNodes(2);
        Check.readText(p, "arc 0 1 5\narc 0 1 4\narc 0 1 4\narc 0 1 6\narc 0 0 0\narc 1 1 0\n");
        p.remake();
        Check.due("33 edge: the arc", 1, p.edge(0, false, 0, 3));
        Check.due("34 edgeLength", 4, p.edgeLength(0, false, 0));
        Check.due("41 total(6)", 1, p.total(6));
        p.weigh(0, 4);
        p.remake();
        Check.due("33 edge: the arc of like weight", 0, p.edge(0, false, 0, 3));
    }

    /** From 0 to 2 over 1 in 2^61 - 2, with and without a witness; then in 6, with one of 7 and one of 6. */
    private static void witnessesAtTheLimit() {
        long half = Scene.MOST_WEIGHT / 2 - 1;
        String over = "node 0 0\nnode 0 0\nnode 0 0\nnode 0 0\narc 0 1 " + half + "\narc 1 2 " + half + "\n";
        String[] witness = {"", "arc 0 2 " + 2 * half, "arc 0 3 " + half + "\narc 3 2 " + (half - 1),
            "arc 0 3 " + (half - 1) + "\narc 3 2 " + half, "arc 0 3 0\narc 3 2 " + 2 * half,
            "arc 0 3 " + 2 * half + "\narc 3 2 0", "arc 0 3 " + 2 * half + "\narc 3 2 1"};
        int[] shortcuts = {1, 0, 0, 0, 0, 0, 1};
        for (int k = 0; k < witness.length; k++) {
            RoutePlanner p = new RoutePlanner();
            Check.due("4 read", 0, Check.readText(p, over + witness[k]));
            tellOrder(p, 1, 0, 2, 3);
            Check.due("29 prepareTold: witness " + k, shortcuts[k], p.prepareTold());
        }
        RoutePlanner p = new RoutePlanner();
        Check.readText(p, "node 0 0\n".repeat(4) + "arc 0 1 3\narc 1 2 3\narc 0 3 3\narc 3 2 4\n");
        tellOrder(p, 1, 0, 2, 3);
        Check.due("29 prepareTold: one longer", 1, p.prepareTold());
        p.weigh(3, 3);
        tellOrder(p, 1, 0, 2, 3);
        Check.due("29 prepareTold: just as long, of like count", 0, p.prepareTold());
    }

    /** The shortcut from 0 to 2 would be part of a witness from 0 to 3, but it is not there yet. */
    private static void allIsAskedAheadOfShortcuts() {
        RoutePlanner p = withNodes(4);
        Check.readText(p, "arc 0 1 1\narc 1 2 1\narc 2 3 1\narc 1 3 3\n");
        tellOrder(p, 1, 0, 2, 3);
        Check.due("29 prepareTold: both shortcuts", 2, p.prepareTold());
        Check.due("34 edgeLength to 2", 2, p.edgeLength(0, false, 0));
        Check.due("34 edgeLength to 3", 4, p.edgeLength(0, false, 1));
        Check.due("35 query(0, 3)", 3, p.query(0, 3));
        Check.due("37 found", 3, p.found());
        Check.due("36 told(4)", 1, p.told(4));
    }

    /** The arc from 0 to 2 gives way to a shortcut if that is shorter by 1, and stays if it is just as long. */
    private static void shortcutsInPlaceOfArcs() {
        for (long w = 4; w <= 6; w++) {
            RoutePlanner p = withNodes(3);
            Check.readText(p, "arc 0 1 2\narc 1 2 3\narc 0 2 " + w + "\n");
            tellOrder(p, 1, 0, 2);
            boolean shorter = w == 6;
            Check.due("29 prepareTold: an arc of " + w, shorter ? 1 : 0, p.prepareTold());
            Check.due("33 edge: over", shorter ? 1 : -1, p.edge(0, false, 0, 2));
            Check.due("33 edge: arc", shorter ? -1 : 2, p.edge(0, false, 0, 3));
            Check.due("33 edge: count", shorter ? 2 : 1, p.edge(0, false, 0, 1));
            Check.due("34 edgeLength", Math.min(w, 5), p.edgeLength(0, false, 0));
            Check.due("33 edge: there is one", -1, p.edge(0, false, 1, 0));
        }
    }

    // ---- 35 query to 39 relaxed

    private static void queriesRefused() {
        for (int v : NO_NODES) {
            Twins.refused("35 query(" + v + ", 0)", IndexOutOfBoundsException.class, Scene::midst,
                    p -> p.query(v, 0));
            Twins.refused("35 query(0, " + v + ")", IndexOutOfBoundsException.class, Scene::midst,
                    p -> p.query(0, v));
            Twins.refused("35 query(0, " + v + ") without a hierarchy", IndexOutOfBoundsException.class,
                    Scene::withoutHierarchy, p -> p.query(0, v));
        }
        Twins.refused("35 query without a hierarchy", IllegalStateException.class, Scene::withoutHierarchy,
                p -> p.query(0, 3));
        Twins.refused("35 query of one node without a hierarchy", IllegalStateException.class,
                Scene::withoutHierarchy, p -> p.query(2, 2));
        Twins.refused("35 query ahead of any hierarchy", IllegalStateException.class, Scene::withoutLandmarks,
                p -> p.query(0, 3));
    }

    private static void dueNoQuery(String what, RoutePlanner p) {
        for (int k = 0; k <= 4; k++) {
            Check.due("36 told(" + k + ") " + what, -1, p.told(k));
        }
        Check.due("37 found " + what, -1, p.found());
        Check.due("38 step " + what, -1, p.step(0));
        for (int k = 0; k <= 2; k++) {
            Check.due("39 relaxed(0, " + k + ") " + what, -1, p.relaxed(0, k));
        }
    }

    private static void noQueryYet() {
        RoutePlanner p = path();
        dueNoQuery("of a new one", p);
        p.prepare();
        dueNoQuery("ahead of any query", p);
        Check.dueThrow("35 query(0, 3)", IndexOutOfBoundsException.class, () -> p.query(0, 3));
        dueNoQuery("after what was refused", p);
    }

    private static void dueForgotten(String what, boolean forgotten, Twins.CallOn call) {
        RoutePlanner p = path();
        p.prepare();
        p.query(0, 2);
        call.on(p);
        if (forgotten) {
            dueNoQuery("after " + what, p);
        } else {
            Check.due("37 found after " + what, 3, p.found());
            Check.due("38 step after " + what, 2, p.step(1));
            Check.due("36 told after " + what, 2, p.told(1));
            Check.due("39 relaxed after " + what, 0, p.relaxed(0, 0));
        }
    }

    private static void queriesAreForgotten() {
        dueForgotten("node()", true, p -> p.node(0, 0));
        dueForgotten("arc()", true, p -> p.arc(0, 0, 0));
        dueForgotten("weigh()", true, p -> p.weigh(1, 9));
        dueForgotten("clear()", true, p -> p.clear());
        dueForgotten("read() of a node", true, p -> Check.readText(p, "node 0 0"));
        dueForgotten("read() of an arc", true, p -> Check.readText(p, "arc 0 0 0"));
        dueForgotten("prepare()", true, p -> p.prepare());
        dueForgotten("remake()", true, p -> p.remake());
        dueForgotten("prepareTold()", true, p -> {
            tellOrder(p, 0, 1, 2);
            return p.prepareTold();
        });
        dueForgotten("weigh() as it was", false, p -> p.weigh(1, 1));
        dueForgotten("read() of nothing", false, p -> Check.readText(p, " "));
        dueForgotten("read() of a fault", false, p -> Check.readText(p, "node 0 0\nnode"));
        dueForgotten("search()", false, p -> p.search(2));
        dueForgotten("both()", false, p -> p.both(2, 0));
        dueForgotten("goal()", false, p -> p.goal(2, 0));
        dueForgotten("distance()", false, p -> p.distance(2, 0));
        dueForgotten("potential()", false, p -> p.potential(2, 1));
        dueForgotten("landmark()", false, p -> p.landmark(2));
        dueForgotten("order()", false, p -> p.order(2));
        dueForgotten("factors()", false, p -> p.factors(9, 9, 9));
        dueForgotten("feed()", false, p -> p.feed(0, 0, 0, 0, 0));
    }

    private static void queriesOfOneNode() {
        RoutePlanner p = path();
        tellOrder(p, 0, 1, 2);
        p.prepareTold();
        int[] relaxed = {4, 2, 0};
        for (int v = 0; v < 3; v++) {
            Check.due("35 query of " + v + " alone", relaxed[v], p.query(v, v));
            Check.due("36 told(0): the top", v, p.told(0));
            Check.due("36 told(1)", 0, p.told(1));
            Check.due("36 told(2)", 3 - v, p.told(2));
            Check.due("36 told(3)", 3 - v, p.told(3));
            Check.due("36 told(4)", 0, p.told(4));
            Check.due("37 found", 0, p.found());
            Check.due("38 step(0)", -1, p.step(0));
            Check.due("39 relaxed behind the last", -1, p.relaxed(relaxed[v], 0));
        }
    }

    private static void queriesWithoutAWalk() {
        RoutePlanner p = withNodes(3);
        p.arc(1, 0, 4);
        p.remake();
        Check.due("35 query(0, 1)", 0, p.query(0, 1));
        int[] told = {-1, -1, 1, 1, -1};
        for (int k = 0; k <= 4; k++) {
            Check.due("36 told(" + k + ") without a walk", told[k], p.told(k));
        }
        Check.due("37 found without a walk", -1, p.found());
        Check.due("38 step without a walk", -1, p.step(0));
        Check.due("39 relaxed without an edge", -1, p.relaxed(0, 2));
        Check.due("35 query(1, 0)", 1, p.query(1, 0));
        Check.due("37 found", 4, p.found());
        Check.due("39 relaxed", 1, p.relaxed(0, 0));
        Check.due("39 relaxed: a DOWN edge", 0, p.relaxed(0, 2));
        Check.due("35 query(1, 2)", 0, p.query(1, 2));
        Check.due("37 found: the latest one has none", -1, p.found());
        Check.due("38 step: the latest one has none", -1, p.step(0));
    }

    private static void queriesOutside() {
        RoutePlanner p = path();
        tellOrder(p, 1, 0, 2);
        p.prepareTold();
        Check.due("35 query(1, 0)", 4, p.query(1, 0));
        for (int i : FAR) {
            Check.due("36 told(" + i + ")", -1, p.told(i));
            Check.due("38 step(" + i + ")", -1, p.step(i));
            Check.due("39 relaxed(" + i + ", 0)", -1, p.relaxed(i, 0));
            Check.due("39 relaxed(0, " + i + ")", -1, p.relaxed(0, i));
        }
        Check.due("36 told(5)", -1, p.told(5));
        Check.due("38 step(1) of 1", -1, p.step(1));
        Check.due("38 step(0) of 1", 1, p.step(0));
        Check.due("39 relaxed(4, 2) of 4", -1, p.relaxed(4, 2));
        Check.due("39 relaxed(3, 2) of 4", 0, p.relaxed(3, 2));
        Check.due("39 relaxed(2, 2) of 4", 1, p.relaxed(2, 2));
        Check.due("39 relaxed(0, 3)", -1, p.relaxed(0, 3));
    }

    /** 24 nodes in a line of all the weight that can be told: 23 arcs out of one shortcut. */
    private static void theLongestWalk() {
        RoutePlanner p = withNodes(24);
        long w = (Scene.SUM_LIMIT - 1) / 23;
        for (int v = 0; v < 23; v++) {
            p.arc(v, v + 1, w);
        }
        for (int v = 22; v > 0; v--) {
            p.order(v);
        }
        tellOrder(p, 0, 23);
        Check.due("29 prepareTold", 22, p.prepareTold());
        Check.due("35 query(0, 23)", 1, p.query(0, 23));
        Check.due("36 told(1)", 23, p.told(1));
        Check.due("36 told(4)", 1, p.told(4));
        Check.due("37 found", 23 * w, p.found());
        for (int i = 0; i < 23; i++) {
            Check.due("38 step(" + i + ")", i, p.step(i));
        }
        Check.due("38 step(23)", -1, p.step(23));
        Check.due("33 edge: count", 23, p.edge(0, false, 0, 1));
        Check.due("34 edgeLength", 23 * w, p.edgeLength(0, false, 0));
        Check.due("35 query(23, 0)", 0, p.query(23, 0));
        Check.due("37 found back", -1, p.found());
    }

    /** A query from the first in rank to itself relaxes all edges that there are, 552 of 24 nodes. */
    private static void theMostEdgesRelaxed() {
        RoutePlanner p = withNodes(24);
        StringBuilder text = new StringBuilder();
        for (int v = 1; v < 24; v++) {
            text.append("road 0 ").append(v).append(" 0\n");
        }
        Check.readText(p, text.toString());
        p.remake();
        Check.due("41 total(6)", 552, p.total(6));
        Check.due("35 query(0, 0)", 552, p.query(0, 0));
        Check.due("36 told(2)", 24, p.told(2));
        Check.due("36 told(3)", 24, p.told(3));
        int[][] due = {{0, 0, 1, 1}, {22, 0, 23, 1}, {23, 1, 2, 1}, {275, 22, 23, 1}, {276, 1, 0, 0},
            {298, 23, 0, 0}, {299, 2, 1, 0}, {551, 23, 22, 0}, {552, -1, -1, -1}};
        for (int[] d : due) {
            for (int what = 0; what <= 2; what++) {
                Check.due("39 relaxed(" + d[0] + ", " + what + ")", d[what + 1], p.relaxed(d[0], what));
            }
        }
        Check.due("35 query(23, 23)", 0, p.query(23, 23));
        Check.due("39 relaxed of the last in rank", -1, p.relaxed(0, 0));
    }

    public static void main(String[] args) {
        factorsBeyond();
        factorsWithin();
        factorsAtTheirLimits();
        prepareNothing();
        preparesUpToTheLimit();
        theLastPrepareOfEachKind();
        preparesBeyondTheLimit();
        ordersRefused();
        ordersUpToAllNodes();
        prepareToldRefused();
        orderStays();
        remakeWithoutRanks();
        remakeByTheLatestRanks();
        remakeOfAFullGraph();
        readyTillSomethingComes();
        ranksAndEdgesOutside();
        edgesOfOneNode();
        edgesOfSeveralArcs();
        witnessesAtTheLimit();
        allIsAskedAheadOfShortcuts();
        shortcutsInPlaceOfArcs();
        queriesRefused();
        noQueryYet();
        queriesAreForgotten();
        queriesOfOneNode();
        queriesWithoutAWalk();
        queriesOutside();
        theLongestWalk();
        theMostEdgesRelaxed();
        Check.finish("HierarchyBoundsTest");
    }
}
