import java.util.Random;

/** Runs of calls by chance (the same ones each time) on the class and on the model, whose answers must be alike. */
public final class RandomRunsTest {
    private static final int RUNS = 8000;
    private static final int ROUNDS = 62;

    /** What later calls answer is free. */
    private static final int MOST_CALLS = 512;

    private final Random chance;
    private final RoutePlanner p = new RoutePlanner();
    private final Model m = new Model();
    private final String name;
    private final int nodesWanted;
    private final int arcsWanted;
    private final int weightKind;
    private int calls = 0;

    private RandomRunsTest(int seed) {
        chance = new Random(seed);
        name = "run " + seed;
        int size = chance.nextInt(24);
        nodesWanted = size == 0 ? 30 : size < 6 ? chance.nextInt(24) : chance.nextInt(9);
        arcsWanted = chance.nextInt(size == 0 ? 2 : 40) == 0 ? 330 : chance.nextInt(nodesWanted * 4 + 2);
        weightKind = chance.nextInt(6);
    }

    private void same(String call, Check.Call model, Check.Call planner) {
        calls++;
        if (calls > MOST_CALLS) {
            return;
        }
        String want = Check.outcome(model);
        Check.due(name + ": " + call, want, Check.outcome(planner));
    }

    private int anyNode() {
        int n = m.places.size();
        return chance.nextInt(40) == 0 ? farNumber() : n == 0 ? 0 : chance.nextInt(n);
    }

    private int small(int most) {
        return chance.nextInt(40) == 0 ? farNumber() : chance.nextInt(most + 2) - 1;
    }

    private int farNumber() {
        int[] far = {Integer.MIN_VALUE, Integer.MAX_VALUE, -2, -1, 23, 24, 25, 47, 48, 299, 300, 301, 576};
        return chance.nextBoolean() ? far[chance.nextInt(far.length)] : m.places.size() + chance.nextInt(2);
    }

    private long anyWeight() {
        if (chance.nextInt(60) == 0) {
            long[] edges = {-1, 1L << 61, (1L << 61) + 1, Long.MAX_VALUE, Long.MIN_VALUE, (1L << 62) - 1};
            return edges[chance.nextInt(edges.length)];
        }
        switch (weightKind) {
            case 0: return chance.nextInt(9) / 8;
            case 1: return chance.nextInt(2);
            case 2: return chance.nextInt(4);
            case 3: return chance.nextInt(1000);
            case 4: return chance.nextLong() >>> 8;
            default: return chance.nextInt(20) * chance.nextInt(3);
        }
    }

    private void tellNode() {
        int x = chance.nextInt(30) == 0 ? chance.nextInt() : chance.nextInt(21) - 10;
        int y = chance.nextInt(30) == 0 ? 1000000 + chance.nextInt(3) - 1 : chance.nextInt(21) - 10;
        same("node(" + x + ", " + y + ")", () -> m.node(x, y), () -> p.node(x, y));
    }

    private void tellArc() {
        int from = anyNode();
        int to = anyNode();
        long w = anyWeight();
        same("arc(" + from + ", " + to + ", " + w + ")", () -> m.arc(from, to, w), () -> p.arc(from, to, w));
    }

    private void weighArc() {
        int a = small(m.arcs.size());
        long w = chance.nextInt(5) == 0 ? Math.max(0, m.weight(a)) : anyWeight();
        same("weigh(" + a + ", " + w + ")", () -> m.weigh(a, w), () -> p.weigh(a, w));
    }

    private String anyWord() {
        String[] words = {"node", "arc", "road", "#", "#x", "x", "-", "-1", "--1", "1x", "007", "1000000", "1000001",
            "-1000000", "-1000001", "-0", "2305843009213693952", "2305843009213693953", "99999999999999999999999",
            "0", "1", "2", "3", "+1", "nod", "nodes", "2#", "23", "24", "\t", "1\t", "\u00ff", "~", "\u007f", "!"};
        return words[chance.nextInt(words.length)];
    }

    private String anyLine() {
        StringBuilder line = new StringBuilder();
        int kind = chance.nextInt(12);
        if (kind < 4) {
            line.append("node ").append(chance.nextInt(20) - 10).append("  ").append(chance.nextInt(9));
        } else if (kind < 9) {
            line.append(kind < 7 ? "arc " : " road ").append(anyNode()).append(' ').append(anyNode()).append(' ')
                    .append(anyWeight());
        }
        if (chance.nextInt(5) == 0) {
            line.append(' ').append('#').append(anyWord());
        }
        int changes = chance.nextInt(4) == 0 ? 1 + chance.nextInt(3) : 0;
        for (int k = 0; k < changes; k++) {
            String[] words = line.toString().split(" ", -1);
            words[chance.nextInt(words.length)] = anyWord();
            line = new StringBuilder(String.join(chance.nextBoolean() ? " " : "  ", words));
        }
        return line.toString();
    }

    private void feedBytes(String text) {
        for (int at = 0; at < text.length(); at += 20) {
            int[] n = new int[5];
            for (int i = 0; i < 20; i++) {
                n[i / 4] = n[i / 4] << 8 | (at + i < text.length() ? text.charAt(at + i) : 32);
            }
            same("feed", () -> m.feed(n[0], n[1], n[2], n[3], n[4]), () -> p.feed(n[0], n[1], n[2], n[3], n[4]));
        }
    }

    private void readText() {
        StringBuilder text = new StringBuilder();
        int lines = 1 + chance.nextInt(4);
        for (int i = 0; i < lines; i++) {
            text.append(anyLine()).append(i + 1 < lines || chance.nextBoolean() ? "\n" : "");
        }
        int start = m.tape.length();
        feedBytes(text.toString());
        int n = chance.nextInt(10) == 0 ? chance.nextInt(2100) - 20 : start + text.length();
        same("end(" + n + ")", () -> m.end(n), () -> p.end(n));
        if (chance.nextInt(12) != 0) {
            same("read() of " + text.toString().replace("\n", "|"), m::read, p::read);
        }
        same("place()", m::place, p::place);
    }

    private void tellPotential() {
        int v = anyNode();
        long[] edges = {1L << 60, -(1L << 60), (1L << 60) + 1, -(1L << 60) - 1, 0};
        long q = chance.nextInt(10) == 0 ? edges[chance.nextInt(edges.length)] : chance.nextInt(5) - 2;
        same("potential(" + v + ", " + q + ")", () -> m.potential(v, q), () -> p.potential(v, q));
        same("inconsistent()", m::inconsistent, p::inconsistent);
    }

    private void straighten() {
        int t = anyNode();
        int k = chance.nextInt(8) == 0 ? 999999 + chance.nextInt(3) : small(2);
        same("straight(" + t + ", " + k + ")", () -> m.straight(t, k), () -> p.straight(t, k));
        same("inconsistent()", m::inconsistent, p::inconsistent);
    }

    private void searchOnce() {
        int s = anyNode();
        int t = anyNode();
        switch (chance.nextInt(4)) {
            case 0: same("search(" + s + ")", () -> m.search(s), () -> p.search(s)); break;
            case 1: same("goal(" + s + ", " + t + ")", () -> m.goal(s, t), () -> p.goal(s, t)); break;
            case 2: same("both(" + s + ", " + t + ")", () -> m.both(s, t), () -> p.both(s, t)); break;
            default: same("landmarked(" + s + ", " + t + ")", () -> m.landmarked(s, t), () -> p.landmarked(s, t));
        }
        seeTrail();
    }

    private void seeTrail() {
        for (int i = -1; i <= m.seen.size(); i++) {
            int k = i;
            same("settled(" + k + ")", () -> m.settled(k), () -> p.settled(k));
            same("length(" + k + ")", () -> m.length(k), () -> p.length(k));
            same("count(" + k + ")", () -> m.count(k), () -> p.count(k));
        }
    }

    private void makeHierarchy() {
        switch (chance.nextInt(3)) {
            case 0: same("prepare()", m::prepare, p::prepare); break;
            case 1: same("remake()", m::remake, p::remake); break;
            default:
                for (int k = 0; k < 2 * m.places.size(); k++) {
                    tellOrder();
                }
                if (chance.nextInt(4) != 0) {
                    for (int v = 0; v < m.places.size(); v++) {
                        int w = v;
                        same("order(" + w + ")", () -> m.order(w), () -> p.order(w));
                    }
                }
                same("prepareTold()", m::prepareTold, p::prepareTold);
        }
        seeHierarchy();
    }

    private void tellOrder() {
        int v = anyNode();
        same("order(" + v + ")", () -> m.order(v), () -> p.order(v));
    }

    private void seeHierarchy() {
        same("ready()", m::ready, p::ready);
        for (int v = -1; v <= m.places.size(); v++) {
            int w = v;
            same("ranked(" + w + ")", () -> m.ranked(w), () -> p.ranked(w));
            same("about(" + w + ", 6)", () -> m.about(w, 6), () -> p.about(w, 6));
            for (int side = 0; side < 2; side++) {
                boolean down = side == 1;
                for (int i = -1; i == -1 || i == 0 || m.edge(w, down, i - 1, 0) != -1; i++) {
                    int k = i;
                    for (int what = -1; what <= 4; what++) {
                        int x = what;
                        same("edge(" + w + ", " + down + ", " + k + ", " + x + ")",
                                () -> m.edge(w, down, k, x), () -> p.edge(w, down, k, x));
                    }
                    same("edgeLength(" + w + ", " + down + ", " + k + ")",
                            () -> m.edgeLength(w, down, k), () -> p.edgeLength(w, down, k));
                }
            }
        }
    }

    private void queryOnce() {
        int s = anyNode();
        int t = anyNode();
        same("query(" + s + ", " + t + ")", () -> m.query(s, t), () -> p.query(s, t));
        seeRoute();
    }

    private void seeRoute() {
        same("found()", m::found, p::found);
        for (int i = -1; i <= 5; i++) {
            int k = i;
            same("told(" + k + ")", () -> m.told(k), () -> p.told(k));
        }
        for (int i = -1; i <= m.walk.size(); i++) {
            int k = i;
            same("step(" + k + ")", () -> m.step(k), () -> p.step(k));
        }
        for (int i = -1; i <= m.relaxedEdges.size(); i++) {
            int k = i;
            for (int what = -1; what <= 3; what++) {
                int x = what;
                same("relaxed(" + k + ", " + x + ")", () -> m.relaxed(k, x), () -> p.relaxed(k, x));
            }
        }
    }

    private void seeTotals() {
        for (int i = -1; i <= 9; i++) {
            int k = i;
            same("total(" + k + ")", () -> m.total(k), () -> p.total(k));
        }
    }

    private void seePair() {
        int s = anyNode();
        int t = anyNode();
        same("distance(" + s + ", " + t + ")", () -> m.distance(s, t), () -> p.distance(s, t));
        same("arcs(" + s + ", " + t + ")", () -> m.arcs(s, t), () -> p.arcs(s, t));
        same("bound(" + s + ", " + t + ")", () -> m.bound(s, t), () -> p.bound(s, t));
        int i = small(8);
        same("reached(" + s + ", " + i + ")", () -> m.reached(s, i), () -> p.reached(s, i));
        int a = small(m.arcs.size());
        same("weight(" + a + ")", () -> m.weight(a), () -> p.weight(a));
        int what = small(8);
        same("about(" + a + ", " + what + ")", () -> m.about(a, what), () -> p.about(a, what));
        same("about(" + s + ", " + what + ")", () -> m.about(s, what), () -> p.about(s, what));
    }

    private void changeGraph() {
        switch (chance.nextInt(6)) {
            case 0: tellNode(); break;
            case 1: tellArc(); break;
            case 2: readText(); break;
            case 3:
                if (chance.nextInt(20) == 0) {
                    same("clear()", m::clear, p::clear);
                }
                break;
            default: weighArc();
        }
    }

    private void callOnce() {
        switch (chance.nextInt(13)) {
            case 0:
                changeGraph();
                seeTotals();
                break;
            case 1: tellPotential(); break;
            case 2: straighten(); break;
            case 3:
                int l = anyNode();
                same("landmark(" + l + ")", () -> m.landmark(l), () -> p.landmark(l));
                break;
            case 4:
                int f0 = small(9);
                int f1 = small(9);
                int f2 = chance.nextInt(5) == 0 ? small(10) : 1;
                same("factors(" + f0 + ", " + f1 + ", " + f2 + ")",
                        () -> m.factors(f0, f1, f2), () -> p.factors(f0, f1, f2));
                break;
            case 5:
            case 6:
                if (chance.nextInt(3) == 0) {
                    makeHierarchy();
                } else {
                    tellOrder();
                }
                break;
            case 7:
            case 8: queryOnce(); break;
            case 9:
            case 10: searchOnce(); break;
            case 11:
                seeTrail();
                seeRoute();
                seeTotals();
                break;
            default: seePair();
        }
    }

    /** Many nodes and arcs come by texts, which take fewer calls. */
    private void tellGraph() {
        boolean many = arcsWanted > 60;
        StringBuilder text = new StringBuilder();
        for (int v = 0; v < nodesWanted; v++) {
            if (many && v < 24) {
                text.append("node ").append(chance.nextInt(9)).append(' ').append(chance.nextInt(9)).append('\n');
            } else {
                tellNode();
            }
        }
        readAll(text);
        for (int a = 0; a < arcsWanted; a++) {
            if (many && a < 296 && nodesWanted > 0) {
                int nodes = Math.min(nodesWanted, 24);
                text.append("arc ").append(chance.nextInt(nodes)).append(' ').append(chance.nextInt(nodes))
                        .append(' ').append(chance.nextInt(9)).append('\n');
                if (text.length() > 1900) {
                    readAll(text);
                }
            } else {
                tellArc();
            }
        }
        readAll(text);
    }

    private void readAll(StringBuilder text) {
        feedBytes(text.toString());
        same("read()", m::read, p::read);
        text.setLength(0);
    }

    private void run() {
        tellGraph();
        for (int k = 0; k < ROUNDS && calls < MOST_CALLS; k++) {
            callOnce();
        }
    }

    public static void main(String[] args) {
        int runs = args.length > 0 ? Integer.parseInt(args[0]) : RUNS;
        for (int seed = 0; seed < runs; seed++) {
            new RandomRunsTest(seed).run();
        }
        Check.finish("RandomRunsTest");
    }
}
