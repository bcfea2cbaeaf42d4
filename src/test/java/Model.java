import java.math.BigInteger;
import java.util.ArrayList;
import java.util.Arrays;
import java.util.Comparator;
import java.util.List;
import java.util.TreeMap;
import java.util.TreeSet;

/**
 * The document once more, told as plainly as can be and by other ways than the class: numbers without an end,
 * all distances by rounds over all arcs, orders by sorting, texts by splitting.
 */
final class Model {
    static final BigInteger LIMIT = BigInteger.ONE.shiftLeft(62);

    record Arc(int from, int to, long weight) { }

    /** Length and count of a walk. */
    record Far(BigInteger length, int count) implements Comparable<Far> {
        static final Far ZERO = new Far(BigInteger.ZERO, 0);

        Far plus(Far o) {
            return new Far(length.add(o.length), count + o.count);
        }

        public int compareTo(Far o) {
            int c = length.compareTo(o.length);
            return c != 0 ? c : Integer.compare(count, o.count);
        }
    }

    record Edge(int from, int to, Far far, int over, int arc) { }

    record Seen(int node, Far far) { }

    record Relaxed(int from, int to, int up) { }

    final StringBuilder tape = new StringBuilder();
    int faultPlace = -1;
    List<int[]> places = new ArrayList<>();
    List<Long> potentials = new ArrayList<>();
    List<Arc> arcs = new ArrayList<>();
    List<Integer> landmarks = new ArrayList<>();
    List<Integer> told = new ArrayList<>();
    int[] factors = {4, 2, 1};
    int prepares = 0;
    List<Seen> seen = new ArrayList<>();

    List<Integer> latestRanks = new ArrayList<>();
    boolean made = false;
    List<TreeMap<Integer, Edge>> up = new ArrayList<>();
    List<TreeMap<Integer, Edge>> down = new ArrayList<>();

    boolean asked = false;
    int top = -1;
    int shortcutsOfWalk = 0;
    int ups = 0;
    int downs = 0;
    Far best = null;
    List<Integer> walk = new ArrayList<>();
    List<Relaxed> relaxedEdges = new ArrayList<>();

    private Far[][] distances = null;

    // ---- help

    private int n() {
        return places.size();
    }

    private boolean isNode(int v) {
        return v >= 0 && v < n();
    }

    private void needNode(int v) {
        if (!isNode(v)) {
            throw new IndexOutOfBoundsException();
        }
    }

    private BigInteger sum() {
        BigInteger s = BigInteger.ZERO;
        for (Arc a : arcs) {
            s = s.add(BigInteger.valueOf(a.weight));
        }
        for (long p : potentials) {
            s = s.add(BigInteger.valueOf(p).abs());
        }
        return s;
    }

    private void changed() {
        distances = null;
        made = false;
        seen = new ArrayList<>();
        asked = false;
    }

    private Far d(int s, int t) {
        if (distances == null) {
            distances = new Far[n()][n()];
            for (int v = 0; v < n(); v++) {
                distances[v][v] = Far.ZERO;
            }
            boolean better = true;
            while (better) {
                better = false;
                for (Far[] row : distances) {
                    for (Arc a : arcs) {
                        if (row[a.from] != null) {
                            Far f = row[a.from].plus(new Far(BigInteger.valueOf(a.weight), 1));
                            if (row[a.to] == null || f.compareTo(row[a.to]) < 0) {
                                row[a.to] = f;
                                better = true;
                            }
                        }
                    }
                }
            }
        }
        return distances[s][t];
    }

    private static int yes(boolean b) {
        return b ? 1 : 0;
    }

    // ---- texts

    int feed(int a, int b, int c, int d, int e) {
        if (tape.length() + 20 > 2000) {
            throw new IllegalStateException();
        }
        for (int number : new int[] {a, b, c, d, e}) {
            for (int k = 3; k >= 0; k--) {
                tape.append((char) (number >>> 8 * k & 255));
            }
        }
        return tape.length();
    }

    int end(int n) {
        if (n < 0 || n > tape.length()) {
            throw new IllegalArgumentException();
        }
        tape.setLength(n);
        return n;
    }

    /** Reads up to the first byte that can't be; what lacks there lacks at that byte's place, so 1 goes first. */
    int read() {
        String text = tape.toString();
        tape.setLength(0);
        int bad = text.length();
        for (int i = text.length() - 1; i >= 0; i--) {
            char c = text.charAt(i);
            if (c != 10 && (c < 32 || c > 126)) {
                bad = i;
            }
        }
        List<int[]> newPlaces = new ArrayList<>(places);
        List<Arc> newArcs = new ArrayList<>(arcs);
        int[] fault = parse(text.substring(0, bad), newPlaces, newArcs);
        if (bad < text.length() && (fault == null || fault[1] >= bad)) {
            fault = new int[] {1, bad};
        }
        faultPlace = fault == null ? -1 : fault[1];
        if (fault != null) {
            return fault[0];
        }
        if (newPlaces.size() > n() || newArcs.size() > arcs.size()) {
            places = newPlaces;
            arcs = newArcs;
            while (potentials.size() < n()) {
                potentials.add(0L);
            }
            changed();
        }
        return 0;
    }

    private int[] parse(String text, List<int[]> newPlaces, List<Arc> newArcs) {
        int start = 0;
        for (String line : text.split("\n", -1)) {
            int[] fault = parseLine(line, start, newPlaces, newArcs);
            if (fault != null) {
                return fault;
            }
            start += line.length() + 1;
        }
        return null;
    }

    private int[] parseLine(String line, int start, List<int[]> newPlaces, List<Arc> newArcs) {
        List<String> words = new ArrayList<>();
        List<Integer> where = new ArrayList<>();
        for (int i = 0; i < line.length(); i++) {
            if (line.charAt(i) != ' ' && (i == 0 || line.charAt(i - 1) == ' ')) {
                String word = line.substring(i).split(" ")[0];
                if (word.startsWith("#")) {
                    break;
                }
                words.add(word);
                where.add(start + i);
            }
        }
        int lineEnd = start + line.length();
        if (words.isEmpty()) {
            return null;
        }
        String kind = words.get(0);
        if (!List.of("node", "arc", "road").contains(kind)) {
            return new int[] {2, where.get(0)};
        }
        int more = kind.equals("arc") ? 1 : 2;
        if (kind.equals("node") ? newPlaces.size() == 24 : newArcs.size() + more > 300) {
            return new int[] {5, where.get(0)};
        }
        int wanted = kind.equals("node") ? 3 : 4;
        BigInteger[] numbers = new BigInteger[4];
        for (int k = 1; k < wanted; k++) {
            if (k >= words.size()) {
                return new int[] {2, lineEnd};
            }
            if (!words.get(k).matches(kind.equals("node") ? "-?[0-9]+" : "[0-9]+")) {
                return new int[] {3, where.get(k)};
            }
            numbers[k] = new BigInteger(words.get(k));
            int fault = judge(kind, k, more, numbers[k], newPlaces.size(), newArcs);
            if (fault != 0) {
                return new int[] {fault, where.get(k)};
            }
        }
        if (words.size() > wanted) {
            return new int[] {2, where.get(wanted)};
        }
        if (kind.equals("node")) {
            newPlaces.add(new int[] {numbers[1].intValue(), numbers[2].intValue()});
            return null;
        }
        newArcs.add(new Arc(numbers[1].intValue(), numbers[2].intValue(), numbers[3].longValue()));
        if (kind.equals("road")) {
            newArcs.add(new Arc(numbers[2].intValue(), numbers[1].intValue(), numbers[3].longValue()));
        }
        return null;
    }

    private int judge(String kind, int k, int more, BigInteger number, int nodes, List<Arc> newArcs) {
        if (kind.equals("node")) {
            return number.abs().compareTo(BigInteger.valueOf(1000000)) > 0 ? 3 : 0;
        }
        if (k < 3) {
            return number.compareTo(BigInteger.valueOf(nodes)) >= 0 ? 4 : 0;
        }
        if (number.compareTo(BigInteger.ONE.shiftLeft(61)) > 0) {
            return 3;
        }
        BigInteger all = sum().add(number.multiply(BigInteger.valueOf(more)));
        for (Arc a : newArcs.subList(arcs.size(), newArcs.size())) {
            all = all.add(BigInteger.valueOf(a.weight));
        }
        return all.compareTo(LIMIT) >= 0 ? 3 : 0;
    }

    int place() {
        return faultPlace;
    }

    // ---- the graph

    int node(int x, int y) {
        if (x < -1000000 || x > 1000000 || y < -1000000 || y > 1000000) {
            throw new IllegalArgumentException();
        }
        if (n() == 24) {
            throw new IllegalStateException();
        }
        places.add(new int[] {x, y});
        potentials.add(0L);
        changed();
        return n() - 1;
    }

    private void needWeight(long weight) {
        if (weight < 0 || weight > 1L << 61) {
            throw new IllegalArgumentException();
        }
    }

    private void needMore(BigInteger more) {
        if (sum().add(more).compareTo(LIMIT) >= 0) {
            throw new ArithmeticException();
        }
    }

    int arc(int from, int to, long weight) {
        needNode(from);
        needNode(to);
        needWeight(weight);
        if (arcs.size() == 300) {
            throw new IllegalStateException();
        }
        needMore(BigInteger.valueOf(weight));
        arcs.add(new Arc(from, to, weight));
        changed();
        return arcs.size() - 1;
    }

    long weigh(int arc, long weight) {
        if (arc < 0 || arc >= arcs.size()) {
            throw new IndexOutOfBoundsException();
        }
        needWeight(weight);
        Arc a = arcs.get(arc);
        needMore(BigInteger.valueOf(weight).subtract(BigInteger.valueOf(a.weight)));
        if (a.weight != weight) {
            arcs.set(arc, new Arc(a.from, a.to, weight));
            changed();
        }
        return a.weight;
    }

    int about(int k, int what) {
        boolean isArc = k >= 0 && k < arcs.size();
        if (what == 0 && isArc) {
            return arcs.get(k).from;
        }
        if (what == 1 && isArc) {
            return arcs.get(k).to;
        }
        if (what == 2 && isNode(k)) {
            return places.get(k)[0];
        }
        if (what == 3 && isNode(k)) {
            return places.get(k)[1];
        }
        if (what == 4 && isNode(k)) {
            return (int) arcs.stream().filter(a -> a.from == k).count();
        }
        if (what == 5 && isNode(k)) {
            return (int) arcs.stream().filter(a -> a.to == k).count();
        }
        if (what == 6 && isNode(k) && made) {
            return latestRanks.indexOf(k);
        }
        return -1;
    }

    long weight(int arc) {
        return arc >= 0 && arc < arcs.size() ? arcs.get(arc).weight : -1;
    }

    int clear() {
        int were = n();
        places = new ArrayList<>();
        potentials = new ArrayList<>();
        arcs = new ArrayList<>();
        landmarks = new ArrayList<>();
        told = new ArrayList<>();
        latestRanks = new ArrayList<>();
        faultPlace = -1;
        changed();
        return were;
    }

    // ---- searches

    private List<Seen> byKeys(int s, BigInteger[] keys) {
        List<Seen> list = new ArrayList<>();
        for (int v = 0; v < n(); v++) {
            if (d(s, v) != null) {
                list.add(new Seen(v, d(s, v)));
            }
        }
        list.sort(Comparator.comparing((Seen x) -> x.far.length.add(keys[x.node]))
                .thenComparing(x -> x.far.count).thenComparing(x -> x.node));
        return list;
    }

    private static List<Seen> upTo(List<Seen> list, int t) {
        for (int i = 0; i < list.size(); i++) {
            if (list.get(i).node == t) {
                return new ArrayList<>(list.subList(0, i + 1));
            }
        }
        return list;
    }

    private BigInteger[] zeros() {
        BigInteger[] keys = new BigInteger[n()];
        Arrays.fill(keys, BigInteger.ZERO);
        return keys;
    }

    int search(int s) {
        needNode(s);
        seen = byKeys(s, zeros());
        return seen.size();
    }

    int goal(int s, int t) {
        needNode(s);
        needNode(t);
        if (inconsistent() != -1) {
            throw new IllegalStateException();
        }
        BigInteger[] keys = new BigInteger[n()];
        for (int v = 0; v < n(); v++) {
            keys[v] = BigInteger.valueOf(potentials.get(v));
        }
        seen = upTo(byKeys(s, keys), t);
        return seen.size();
    }

    int both(int s, int t) {
        needNode(s);
        needNode(t);
        List<Seen> ahead = byKeys(s, zeros());
        List<Seen> back = new ArrayList<>();
        for (int v = 0; v < n(); v++) {
            if (d(v, t) != null) {
                back.add(new Seen(v, d(v, t)));
            }
        }
        back.sort(Comparator.comparing((Seen x) -> x.far).thenComparing(x -> x.node));
        List<Seen> settledAhead = new ArrayList<>();
        List<Seen> settledBack = new ArrayList<>();
        while (!ahead.isEmpty() && !back.isEmpty()) {
            Far least = null;
            for (Seen a : settledAhead) {
                for (Seen b : settledBack) {
                    if (a.node == b.node && (least == null || a.far.plus(b.far).compareTo(least) < 0)) {
                        least = a.far.plus(b.far);
                    }
                }
            }
            BigInteger nextAhead = ahead.get(0).far.length;
            BigInteger nextBack = back.get(0).far.length;
            if (least != null && nextAhead.add(nextBack).compareTo(least.length) >= 0) {
                break;
            }
            if (nextAhead.compareTo(nextBack) <= 0) {
                settledAhead.add(ahead.remove(0));
            } else {
                settledBack.add(back.remove(0));
            }
        }
        seen = settledAhead;
        seen.addAll(settledBack);
        return seen.size();
    }

    private BigInteger towards(int v, int t) {
        BigInteger most = BigInteger.ZERO;
        for (int l : landmarks) {
            if (d(t, l) != null && d(v, l) == null || d(l, v) != null && d(l, t) == null) {
                return LIMIT;
            }
            if (d(v, l) != null && d(t, l) != null) {
                most = most.max(d(v, l).length.subtract(d(t, l).length));
            }
            if (d(l, t) != null && d(l, v) != null) {
                most = most.max(d(l, t).length.subtract(d(l, v).length));
            }
        }
        return most;
    }

    int landmarked(int s, int t) {
        needNode(s);
        needNode(t);
        if (landmarks.isEmpty()) {
            throw new IllegalStateException();
        }
        BigInteger[] keys = new BigInteger[n()];
        for (int v = 0; v < n(); v++) {
            keys[v] = towards(v, t);
        }
        seen = upTo(byKeys(s, keys), t);
        return seen.size();
    }

    int settled(int i) {
        return i >= 0 && i < seen.size() ? seen.get(i).node : -1;
    }

    long length(int i) {
        return i >= 0 && i < seen.size() ? seen.get(i).far.length.longValueExact() : -1;
    }

    int count(int i) {
        return i >= 0 && i < seen.size() ? seen.get(i).far.count : -1;
    }

    long distance(int s, int t) {
        return isNode(s) && isNode(t) && d(s, t) != null ? d(s, t).length.longValueExact() : -1;
    }

    int arcs(int s, int t) {
        return isNode(s) && isNode(t) && d(s, t) != null ? d(s, t).count : -1;
    }

    long potential(int v, long p) {
        needNode(v);
        if (p < -(1L << 60) || p > 1L << 60) {
            throw new IllegalArgumentException();
        }
        long was = potentials.get(v);
        needMore(BigInteger.valueOf(p).abs().subtract(BigInteger.valueOf(was).abs()));
        potentials.set(v, p);
        return was;
    }

    int inconsistent() {
        for (int a = 0; a < arcs.size(); a++) {
            BigInteger ahead = BigInteger.valueOf(arcs.get(a).weight)
                    .add(BigInteger.valueOf(potentials.get(arcs.get(a).to)));
            if (ahead.compareTo(BigInteger.valueOf(potentials.get(arcs.get(a).from))) < 0) {
                return a;
            }
        }
        return -1;
    }

    int straight(int t, int k) {
        needNode(t);
        if (k < 0 || k > 1000000) {
            throw new IllegalArgumentException();
        }
        List<Long> kept = potentials;
        potentials = new ArrayList<>();
        for (int[] p : places) {
            long across = Math.abs((long) p[0] - places.get(t)[0]);
            long along = Math.abs((long) p[1] - places.get(t)[1]);
            potentials.add(k * (across + along));
        }
        if (inconsistent() != -1 || sum().compareTo(LIMIT) >= 0) {
            potentials = kept;
            return 0;
        }
        return 1;
    }

    int landmark(int v) {
        needNode(v);
        if (landmarks.contains(v)) {
            throw new IllegalArgumentException();
        }
        if (landmarks.size() == 4) {
            throw new IllegalStateException();
        }
        landmarks.add(v);
        return landmarks.size();
    }

    long bound(int v, int t) {
        return isNode(v) && isNode(t) && !landmarks.isEmpty() ? towards(v, t).longValueExact() : -1;
    }

    // ---- the hierarchy

    int factors(int f0, int f1, int f2) {
        for (int f : new int[] {f0, f1, f2}) {
            if (f < 0 || f > 9) {
                return 0;
            }
        }
        factors = new int[] {f0, f1, f2};
        return 1;
    }

    private void needPrepare() {
        if (prepares == 24) {
            throw new UnsupportedOperationException();
        }
        prepares++;
        asked = false;
    }

    private TreeSet<Integer> left;
    private Edge[][] net;

    /** All best walks among what is left but v, by rounds. */
    private Far[][] without(int v) {
        Far[][] far = new Far[n()][n()];
        for (int u : left) {
            for (int x : left) {
                far[u][x] = u == x ? Far.ZERO : net[u][x] == null ? null : net[u][x].far;
            }
        }
        for (int k : left) {
            for (int u : left) {
                for (int x : left) {
                    if (k != v && u != v && x != v && far[u][k] != null && far[k][x] != null) {
                        Far f = far[u][k].plus(far[k][x]);
                        if (far[u][x] == null || f.compareTo(far[u][x]) < 0) {
                            far[u][x] = f;
                        }
                    }
                }
            }
        }
        return far;
    }

    private List<Edge> shortcutsOver(int v) {
        List<Edge> list = new ArrayList<>();
        Far[][] far = without(v);
        for (int u : left) {
            for (int x : left) {
                if (u != x && u != v && x != v && net[u][v] != null && net[v][x] != null) {
                    Far via = net[u][v].far.plus(net[v][x].far);
                    if (far[u][x] == null || far[u][x].compareTo(via) > 0) {
                        list.add(new Edge(u, x, via, v, -1));
                    }
                }
            }
        }
        return list;
    }

    private int value(int v) {
        int edges = 0;
        int contracted = 0;
        for (int x = 0; x < n(); x++) {
            if (left.contains(x)) {
                edges += yes(net[v][x] != null) + yes(net[x][v] != null);
            } else if (up.get(x).containsKey(v) || down.get(x).containsKey(v)) {
                contracted++;
            }
        }
        return factors[0] * shortcutsOver(v).size() - factors[1] * edges + factors[2] * contracted;
    }

    private int make(List<Integer> order) {
        left = new TreeSet<>();
        net = new Edge[n()][n()];
        up = new ArrayList<>();
        down = new ArrayList<>();
        for (int v = 0; v < n(); v++) {
            left.add(v);
            up.add(new TreeMap<>());
            down.add(new TreeMap<>());
        }
        for (int a = arcs.size() - 1; a >= 0; a--) {
            Arc arc = arcs.get(a);
            Edge was = net[arc.from][arc.to];
            if (arc.from != arc.to && (was == null || arc.weight <= was.far.length.longValueExact())) {
                net[arc.from][arc.to] = new Edge(arc.from, arc.to, new Far(BigInteger.valueOf(arc.weight), 1), -1, a);
            }
        }
        int came = 0;
        List<Integer> ranks = new ArrayList<>();
        while (!left.isEmpty()) {
            int v = -1;
            if (order != null) {
                v = order.get(ranks.size());
            } else {
                int least = 0;
                for (int w : left) {
                    int value = value(w);
                    if (v == -1 || value < least) {
                        v = w;
                        least = value;
                    }
                }
            }
            for (Edge e : shortcutsOver(v)) {
                net[e.from][e.to] = e;
                came++;
            }
            left.remove(v);
            ranks.add(v);
            for (int x : left) {
                if (net[v][x] != null) {
                    up.get(v).put(x, net[v][x]);
                }
                if (net[x][v] != null) {
                    down.get(v).put(x, net[x][v]);
                }
            }
        }
        latestRanks = ranks;
        made = true;
        return came;
    }

    int prepare() {
        needPrepare();
        return make(null);
    }

    int order(int v) {
        needNode(v);
        if (told.contains(v)) {
            throw new IllegalArgumentException();
        }
        told.add(v);
        return told.size();
    }

    int prepareTold() {
        if (told.size() < n()) {
            throw new IllegalStateException();
        }
        needPrepare();
        List<Integer> order = told;
        told = new ArrayList<>();
        return make(order);
    }

    int remake() {
        needPrepare();
        List<Integer> order = new ArrayList<>(latestRanks);
        for (int v = 0; v < n(); v++) {
            if (!order.contains(v)) {
                order.add(v);
            }
        }
        return make(order);
    }

    int ready() {
        return yes(made);
    }

    int ranked(int i) {
        return made && i >= 0 && i < n() ? latestRanks.get(i) : -1;
    }

    private Edge edgeAt(int v, boolean isDown, int i) {
        if (!made || !isNode(v)) {
            return null;
        }
        List<Edge> list = new ArrayList<>((isDown ? down : up).get(v).values());
        return i >= 0 && i < list.size() ? list.get(i) : null;
    }

    int edge(int v, boolean isDown, int i, int what) {
        Edge e = edgeAt(v, isDown, i);
        if (e == null || what < 0 || what > 3) {
            return -1;
        }
        return new int[] {isDown ? e.from : e.to, e.far.count, e.over, e.arc}[what];
    }

    long edgeLength(int v, boolean isDown, int i) {
        Edge e = edgeAt(v, isDown, i);
        return e == null ? -1 : e.far.length.longValueExact();
    }

    /** UP from s, or DOWN into t: rounds over all edges of the kind. */
    private Far[] climb(int start, List<TreeMap<Integer, Edge>> edges) {
        Far[] far = new Far[n()];
        far[start] = Far.ZERO;
        for (int round = 0; round <= n(); round++) {
            for (int v = 0; v < n(); v++) {
                for (var e : edges.get(v).entrySet()) {
                    if (far[v] != null) {
                        Far f = far[v].plus(e.getValue().far);
                        if (far[e.getKey()] == null || f.compareTo(far[e.getKey()]) < 0) {
                            far[e.getKey()] = f;
                        }
                    }
                }
            }
        }
        return far;
    }

    private void unpack(Edge e) {
        if (e.over == -1) {
            walk.add(e.arc);
        } else {
            unpack(down.get(e.over).get(e.from));
            unpack(up.get(e.over).get(e.to));
        }
    }

    int query(int s, int t) {
        needNode(s);
        needNode(t);
        if (!made) {
            throw new IllegalStateException();
        }
        asked = true;
        Far[] rise = climb(s, up);
        Far[] fall = climb(t, down);
        top = -1;
        best = null;
        ups = 0;
        downs = 0;
        walk = new ArrayList<>();
        relaxedEdges = new ArrayList<>();
        shortcutsOfWalk = 0;
        for (int v = 0; v < n(); v++) {
            ups += yes(rise[v] != null);
            downs += yes(fall[v] != null);
            if (rise[v] != null && fall[v] != null && (best == null || rise[v].plus(fall[v]).compareTo(best) < 0)) {
                best = rise[v].plus(fall[v]);
                top = v;
            }
        }
        for (int v : latestRanks) {
            for (int x : rise[v] == null ? new TreeSet<Integer>() : up.get(v).keySet()) {
                relaxedEdges.add(new Relaxed(v, x, 1));
            }
        }
        for (int v : latestRanks) {
            for (int x : fall[v] == null ? new TreeSet<Integer>() : down.get(v).keySet()) {
                relaxedEdges.add(new Relaxed(x, v, 0));
            }
        }
        if (top != -1) {
            List<Edge> edges = new ArrayList<>();
            for (int v = top; v != s; v = edges.get(0).from) {
                for (int u = n() - 1, at = v, had = edges.size(); u >= 0; u--) {
                    Edge e = up.get(u).get(at);
                    if (e != null && rise[u] != null && rise[u].plus(e.far).equals(rise[at])) {
                        if (edges.size() > had) {
                            edges.remove(0);
                        }
                        edges.add(0, e);
                    }
                }
            }
            for (int v = top; v != t;) {
                Edge first = null;
                for (int x = n() - 1; x >= 0; x--) {
                    Edge e = down.get(x).get(v);
                    if (e != null && fall[x] != null && fall[x].plus(e.far).equals(fall[v])) {
                        first = e;
                    }
                }
                edges.add(first);
                v = first.to;
            }
            for (Edge e : edges) {
                shortcutsOfWalk += yes(e.over != -1);
                unpack(e);
            }
            judgeWalk(s, t);
        }
        return relaxedEdges.size();
    }

    /** The walk must be one, and as good as d(s, t). */
    private void judgeWalk(int s, int t) {
        int at = s;
        Far far = Far.ZERO;
        for (int a : walk) {
            if (arcs.get(a).from != at) {
                throw new AssertionError("the walk has a gap");
            }
            at = arcs.get(a).to;
            far = far.plus(new Far(BigInteger.valueOf(arcs.get(a).weight), 1));
        }
        if (at != t || !far.equals(d(s, t)) || !far.equals(best)) {
            throw new AssertionError("the walk is not the best");
        }
    }

    int told(int what) {
        if (!asked || what < 0 || what > 4 || top == -1 && what != 2 && what != 3) {
            return -1;
        }
        return new int[] {top, walk.size(), ups, downs, shortcutsOfWalk}[what];
    }

    long found() {
        return asked && top != -1 ? best.length.longValueExact() : -1;
    }

    int step(int i) {
        return asked && i >= 0 && i < walk.size() ? walk.get(i) : -1;
    }

    int relaxed(int i, int what) {
        if (!asked || i < 0 || i >= relaxedEdges.size() || what < 0 || what > 2) {
            return -1;
        }
        Relaxed r = relaxedEdges.get(i);
        return new int[] {r.from, r.to, r.up}[what];
    }

    int reached(int s, int i) {
        if (!isNode(s) || i < 0) {
            return -1;
        }
        List<Integer> list = new ArrayList<>();
        for (int v = 0; v < n(); v++) {
            if (d(s, v) != null) {
                list.add(v);
            }
        }
        return i < list.size() ? list.get(i) : -1;
    }

    int total(int what) {
        int edges = 0;
        int shortcuts = 0;
        for (int v = 0; made && v < n(); v++) {
            edges += up.get(v).size() + down.get(v).size();
            shortcuts += up.get(v).values().stream().filter(e -> e.over != -1).count();
            shortcuts += down.get(v).values().stream().filter(e -> e.over != -1).count();
        }
        int[] totals = {n(), arcs.size(), tape.length(), prepares, landmarks.size(), told.size(), edges, shortcuts,
            seen.size()};
        return what >= 0 && what < totals.length ? totals[what] : -1;
    }
}
