import java.util.Arrays;

/** A planner of ways over a graph: searches, landmarks and a hierarchy of contractions. */
public final class RoutePlanner {
    public static final int NONE = -1;

    private static final int MOST_NODES = 24;
    private static final int CELLS = MOST_NODES * MOST_NODES;
    private static final int MOST_ARCS = 300;
    private static final int MOST_BYTES = 2000;
    private static final int BYTES_FED = 20;
    private static final int MOST_LANDMARKS = 4;
    private static final int MOST_PREPARES = 24;
    private static final int MOST_FACTOR = 9;
    private static final int MOST_PLACE = 1000000;
    private static final int MOST_TIMES = 1000000;
    private static final long MOST_WEIGHT = 1L << 61;
    private static final long MOST_POTENTIAL = 1L << 60;
    private static final long SUM_LIMIT = 1L << 62;
    private static final long LEADS_NOWHERE = 1L << 62;
    private static final long NO_LIMIT = Long.MAX_VALUE;

    private final Tape tape;
    private final Graph graph;
    private final Reader reader;
    private final Ways ahead;
    private final Ways back;
    private final Trail trail;
    private final Landmarks landmarks;
    private final Hierarchy hierarchy;
    private final Route route;
    private final long[] scratch;
    private final int[] toldRow;
    private int toldSize;
    private int prepares;

    public RoutePlanner() {
        tape = new Tape();
        graph = new Graph();
        reader = new Reader(tape, graph);
        ahead = new Ways();
        back = new Ways();
        trail = new Trail();
        landmarks = new Landmarks();
        hierarchy = new Hierarchy();
        route = new Route();
        scratch = new long[MOST_NODES];
        toldRow = new int[MOST_NODES];
        toldSize = 0;
        prepares = 0;
    }

    // ---- texts

    public int feed(int a, int b, int c, int d, int e) throws IllegalStateException {
        if (tape.size > MOST_BYTES - BYTES_FED) {
            throw new IllegalStateException("the tape is full");
        }
        tape.push(a);
        tape.push(b);
        tape.push(c);
        tape.push(d);
        tape.push(e);
        return tape.size;
    }

    public int end(int n) throws IllegalArgumentException {
        if (n < 0 || n > tape.size) {
            throw new IllegalArgumentException("the tape has not so many bytes");
        }
        tape.size = n;
        return n;
    }

    public int read() {
        int fault = reader.readTape();
        if (fault == 0 && (reader.nodes > graph.nodes || reader.arcs > graph.arcs)) {
            graph.take(reader.nodes, reader.arcs, reader.sum);
            forgetAnswers();
        }
        return fault;
    }

    public int place() {
        return reader.faultPlace;
    }

    // ---- the graph

    public int node(int x, int y) throws IllegalArgumentException, IllegalStateException {
        if (!isWithin(x, MOST_PLACE) || !isWithin(y, MOST_PLACE)) {
            throw new IllegalArgumentException("the place is beyond the plane");
        }
        if (graph.nodes >= MOST_NODES) {
            throw new IllegalStateException("there are 24 nodes");
        }
        int number = graph.nodes;
        graph.putNode(number, x, y);
        graph.take(number + 1, graph.arcs, graph.sum);
        forgetAnswers();
        return number;
    }

    public int arc(int from, int to, long weight)
            throws IndexOutOfBoundsException, IllegalArgumentException, IllegalStateException, ArithmeticException {
        needNode(from);
        needNode(to);
        needWeight(weight);
        if (graph.arcs >= MOST_ARCS) {
            throw new IllegalStateException("there are 300 arcs");
        }
        long sum = graph.sum + weight;
        needSum(sum);
        int number = graph.arcs;
        graph.putArc(number, from, to, weight);
        graph.take(graph.nodes, number + 1, sum);
        forgetAnswers();
        return number;
    }

    public long weigh(int arc, long weight)
            throws IndexOutOfBoundsException, IllegalArgumentException, ArithmeticException {
        if (!graph.hasArc(arc)) {
            throw new IndexOutOfBoundsException("no such arc");
        }
        needWeight(weight);
        long was = graph.weights[arc];
        long sum = graph.sum - was + weight;
        needSum(sum);
        if (was != weight) {
            graph.weights[arc] = weight;
            graph.take(graph.nodes, graph.arcs, sum);
            forgetAnswers();
        }
        return was;
    }

    public int about(int k, int what) {
        if (what == 0 || what == 1) {
            return graph.hasArc(k) ? (what == 0 ? graph.tails[k] : graph.heads[k]) : NONE;
        }
        if (!graph.hasNode(k)) {
            return NONE;
        }
        switch (what) {
            case 2: return graph.xs[k];
            case 3: return graph.ys[k];
            case 4: return graph.touching(graph.tails, k);
            case 5: return graph.touching(graph.heads, k);
            case 6: return hierarchy.made ? hierarchy.ranks[k] : NONE;
            default: return NONE;
        }
    }

    public long weight(int arc) {
        return graph.hasArc(arc) ? graph.weights[arc] : NONE;
    }

    public int clear() {
        int were = graph.nodes;
        graph.take(0, 0, 0);
        reader.faultPlace = NONE;
        landmarks.size = 0;
        toldSize = 0;
        hierarchy.placed = 0;
        forgetAnswers();
        return were;
    }

    // ---- searches

    public int search(int s) throws IndexOutOfBoundsException {
        needNode(s);
        ahead.run(graph.net, s, false, NO_LIMIT);
        Arrays.fill(scratch, 0);
        return trail.follow(ahead, scratch, NONE);
    }

    public int goal(int s, int t) throws IndexOutOfBoundsException, IllegalStateException {
        needNode(s);
        needNode(t);
        if (graph.firstInconsistent(graph.potentials) != NONE) {
            throw new IllegalStateException("the potentials are not consistent");
        }
        ahead.run(graph.net, s, false, NO_LIMIT);
        return trail.follow(ahead, graph.potentials, t);
    }

    public int both(int s, int t) throws IndexOutOfBoundsException {
        needNode(s);
        needNode(t);
        ahead.run(graph.net, s, false, NO_LIMIT);
        back.run(graph.net, t, true, NO_LIMIT);
        return trail.meet(ahead, back);
    }

    public int landmarked(int s, int t) throws IndexOutOfBoundsException, IllegalStateException {
        needNode(s);
        needNode(t);
        if (landmarks.size == 0) {
            throw new IllegalStateException("there are no landmarks");
        }
        landmarks.lookTowards(graph.net, t);
        ahead.run(graph.net, s, false, NO_LIMIT);
        return trail.follow(ahead, landmarks.potentials, t);
    }

    public int settled(int i) {
        return trail.has(i) ? trail.nodes[i] : NONE;
    }

    public long length(int i) {
        return trail.has(i) ? trail.lengths[i] : NONE;
    }

    public int count(int i) {
        return trail.has(i) ? trail.counts[i] : NONE;
    }

    public long distance(int s, int t) {
        return findWays(s, t) ? ahead.lengths[t] : NONE;
    }

    public int arcs(int s, int t) {
        return findWays(s, t) ? ahead.counts[t] : NONE;
    }

    // ---- potentials and landmarks

    public long potential(int v, long p)
            throws IndexOutOfBoundsException, IllegalArgumentException, ArithmeticException {
        needNode(v);
        if (p < -MOST_POTENTIAL || p > MOST_POTENTIAL) {
            throw new IllegalArgumentException("the potential is too great");
        }
        long was = graph.potentials[v];
        long sum = graph.sum - Math.abs(was) + Math.abs(p);
        needSum(sum);
        graph.potentials[v] = p;
        graph.sum = sum;
        return was;
    }

    public int inconsistent() {
        return graph.firstInconsistent(graph.potentials);
    }

    public int straight(int t, int k) throws IndexOutOfBoundsException, IllegalArgumentException {
        needNode(t);
        if (k < 0 || k > MOST_TIMES) {
            throw new IllegalArgumentException("k is not 0 .. 1000000");
        }
        long sum = graph.sum;
        for (int v = 0; v < graph.nodes; v++) {
            scratch[v] = k * graph.apart(v, t);
            sum += scratch[v] - Math.abs(graph.potentials[v]);
        }
        if (sum >= SUM_LIMIT || graph.firstInconsistent(scratch) != NONE) {
            return 0;
        }
        System.arraycopy(scratch, 0, graph.potentials, 0, graph.nodes);
        graph.sum = sum;
        return 1;
    }

    public int landmark(int v)
            throws IndexOutOfBoundsException, IllegalArgumentException, IllegalStateException {
        needNode(v);
        if (isAmong(landmarks.nodes, landmarks.size, v)) {
            throw new IllegalArgumentException("it is a landmark");
        }
        if (landmarks.size >= MOST_LANDMARKS) {
            throw new IllegalStateException("there are 4 landmarks");
        }
        landmarks.nodes[landmarks.size] = v;
        landmarks.size++;
        return landmarks.size;
    }

    public long bound(int v, int t) {
        if (!graph.hasNode(v) || !graph.hasNode(t) || landmarks.size == 0) {
            return NONE;
        }
        landmarks.lookTowards(graph.net, t);
        return landmarks.potentials[v];
    }

    // ---- the hierarchy

    public int factors(int f0, int f1, int f2) {
        if (!isFactor(f0) || !isFactor(f1) || !isFactor(f2)) {
            return 0;
        }
        hierarchy.perShortcut = f0;
        hierarchy.perEdge = f1;
        hierarchy.perContracted = f2;
        return 1;
    }

    public int prepare() throws UnsupportedOperationException {
        startPrepare();
        for (int turn = 0; turn < graph.nodes; turn++) {
            hierarchy.contract(hierarchy.cheapest());
        }
        return hierarchy.shortcuts;
    }

    public int order(int v) throws IndexOutOfBoundsException, IllegalArgumentException {
        needNode(v);
        if (isAmong(toldRow, toldSize, v) || toldSize >= MOST_NODES) {
            throw new IllegalArgumentException("it is in the order already");
        }
        toldRow[toldSize] = v;
        toldSize++;
        return toldSize;
    }

    public int prepareTold() throws IllegalStateException, UnsupportedOperationException {
        if (toldSize != graph.nodes) {
            throw new IllegalStateException("not all nodes are in the order");
        }
        startPrepare();
        for (int i = 0; i < toldSize; i++) {
            hierarchy.contract(toldRow[i]);
        }
        toldSize = 0;
        return hierarchy.shortcuts;
    }

    public int remake() throws UnsupportedOperationException {
        int ranksWere = hierarchy.placed;
        startPrepare();
        for (int i = 0; i < graph.nodes; i++) {
            // Nodes without a rank came later than those with one, so they have the highest numbers;
            // and each contraction writes into the row just what is read from it here.
            hierarchy.contract(i < ranksWere ? hierarchy.row[i] : i);
        }
        return hierarchy.shortcuts;
    }

    public int ready() {
        return hierarchy.made ? 1 : 0;
    }

    public int ranked(int i) {
        return hierarchy.made && i >= 0 && i < hierarchy.placed ? hierarchy.row[i] : NONE;
    }

    public int edge(int v, boolean down, int i, int what) {
        int cell = findEdge(v, down, i);
        if (cell == NONE) {
            return NONE;
        }
        switch (what) {
            case 0: return down ? cell / MOST_NODES : cell % MOST_NODES;
            case 1: return hierarchy.net.counts[cell];
            case 2: return hierarchy.net.overs[cell];
            case 3: return hierarchy.net.arcNumbers[cell];
            default: return NONE;
        }
    }

    public long edgeLength(int v, boolean down, int i) {
        int cell = findEdge(v, down, i);
        return cell == NONE ? NONE : hierarchy.net.lengths[cell];
    }

    public int query(int s, int t) throws IndexOutOfBoundsException, IllegalStateException {
        needNode(s);
        needNode(t);
        if (!hierarchy.made) {
            throw new IllegalStateException("there is no hierarchy");
        }
        return route.ask(hierarchy, s, t);
    }

    public int told(int what) {
        if (!route.asked) {
            return NONE;
        }
        boolean walked = route.top != NONE;
        switch (what) {
            case 0: return route.top;
            case 1: return walked ? route.walkSize : NONE;
            case 2: return route.upSize;
            case 3: return route.downSize;
            case 4: return walked ? route.shortcuts : NONE;
            default: return NONE;
        }
    }

    public long found() {
        return route.asked && route.top != NONE ? route.bestLength : NONE;
    }

    public int step(int i) {
        return route.asked && i >= 0 && i < route.walkSize ? route.walk[i] : NONE;
    }

    public int relaxed(int i, int what) {
        if (!route.asked || i < 0 || i >= route.relaxedSize) {
            return NONE;
        }
        switch (what) {
            case 0: return route.relaxedFrom[i];
            case 1: return route.relaxedTo[i];
            case 2: return i < route.relaxedUp ? 1 : 0;
            default: return NONE;
        }
    }

    // ---- overviews

    public int reached(int s, int i) {
        if (!graph.hasNode(s) || i < 0) {
            return NONE;
        }
        ahead.run(graph.net, s, false, NO_LIMIT);
        int before = 0;
        for (int v = 0; v < graph.nodes; v++) {
            if (ahead.counts[v] != NONE) {
                if (before == i) {
                    return v;
                }
                before++;
            }
        }
        return NONE;
    }

    public int total(int what) {
        switch (what) {
            case 0: return graph.nodes;
            case 1: return graph.arcs;
            case 2: return tape.size;
            case 3: return prepares;
            case 4: return landmarks.size;
            case 5: return toldSize;
            case 6: return hierarchy.made ? hierarchy.net.howManyEdges(false) : 0;
            case 7: return hierarchy.made ? hierarchy.net.howManyEdges(true) : 0;
            case 8: return trail.size;
            default: return NONE;
        }
    }

    // ---- what several calls share

    private void needNode(int v) {
        if (!graph.hasNode(v)) {
            throw new IndexOutOfBoundsException("no such node");
        }
    }

    private void needWeight(long weight) {
        if (weight < 0 || weight > MOST_WEIGHT) {
            throw new IllegalArgumentException("the weight is not 0 .. 2^61");
        }
    }

    private void needSum(long sum) {
        if (sum >= SUM_LIMIT) {
            throw new ArithmeticException("all weights and potentials together are too great");
        }
    }

    private void startPrepare() {
        if (prepares >= MOST_PREPARES) {
            throw new UnsupportedOperationException("there were 24 prepares");
        }
        prepares++;
        route.forget();
        hierarchy.begin(graph.net);
    }

    /** What was answered about the graph as it was no longer holds; the ranks stay for a remake. */
    private void forgetAnswers() {
        hierarchy.made = false;
        trail.size = 0;
        route.forget();
    }

    private boolean findWays(int s, int t) {
        if (!graph.hasNode(s) || !graph.hasNode(t)) {
            return false;
        }
        ahead.run(graph.net, s, false, NO_LIMIT);
        return ahead.counts[t] != NONE;
    }

    private int findEdge(int v, boolean down, int i) {
        return hierarchy.made && graph.hasNode(v) && i >= 0 ? hierarchy.cellOf(v, down, i) : NONE;
    }

    private static boolean isWithin(int number, int most) {
        return number >= -most && number <= most;
    }

    private static boolean isFactor(int f) {
        return f >= 0 && f <= MOST_FACTOR;
    }

    private static boolean isAmong(int[] row, int size, int v) {
        for (int i = 0; i < size; i++) {
            if (row[i] == v) {
                return true;
            }
        }
        return false;
    }

    private static boolean isBetter(long lengthA, int countA, long lengthB, int countB) {
        return lengthA < lengthB || lengthA == lengthB && countA < countB;
    }

    /** Walks of edges may use arcs twice and so pass all sums of weights: such a sum stays at the top. */
    private static long together(long a, long b) {
        return a > Long.MAX_VALUE - b ? Long.MAX_VALUE : a + b;
    }

    /** The bytes that were fed and have not been read. */
    private static final class Tape {
        final byte[] bytes = new byte[MOST_BYTES];
        int size = 0;

        void push(int number) {
            for (int shift = 24; shift >= 0 && size < MOST_BYTES; shift -= 8) {
                bytes[size] = (byte) (number >> shift);
                size++;
            }
        }
    }

    /** Reads the tape; what it tells stands behind the graph's own rows till the graph takes it. */
    private static final class Reader {
        private static final int LINE_END = 10;
        private static final int BLANK = 32;
        private static final int LAST_BYTE = 126;
        private static final long NOT_A_NUMBER = Long.MIN_VALUE;
        private static final int NO_FAULT = 0;
        private static final int BAD_BYTE = 1;
        private static final int BAD_WORD = 2;
        private static final int BAD_NUMBER = 3;
        private static final int NO_SUCH_NODE = 4;
        private static final int TOO_MANY = 5;

        private final Tape tape;
        private final Graph graph;
        private int at;
        private int wordAt;
        private int fault;
        int faultPlace;
        int nodes;
        int arcs;
        long sum;

        Reader(Tape tape, Graph graph) {
            this.tape = tape;
            this.graph = graph;
            faultPlace = NONE;
        }

        int readTape() {
            at = 0;
            fault = NO_FAULT;
            faultPlace = NONE;
            nodes = graph.nodes;
            arcs = graph.arcs;
            sum = graph.sum;
            for (int line = 0; line < MOST_BYTES && at < tape.size && fault == NO_FAULT; line++) {
                readLine();
            }
            tape.size = 0;
            return fault;
        }

        private void readLine() {
            if (nextWord()) {
                if (isWord("node")) {
                    readNode();
                } else if (isWord("arc")) {
                    readArcs(false);
                } else if (isWord("road")) {
                    readArcs(true);
                } else {
                    fail(BAD_WORD, wordAt);
                }
                if (nextWord()) {
                    fail(BAD_WORD, wordAt);
                }
            }
            at++;
        }

        private void readNode() {
            if (nodes >= MOST_NODES) {
                fail(TOO_MANY, wordAt);
                return;
            }
            long x = nextNumber(true, MOST_PLACE);
            long y = nextNumber(true, MOST_PLACE);
            if (fault == NO_FAULT) {
                graph.putNode(nodes, (int) x, (int) y);
                nodes++;
            }
        }

        private void readArcs(boolean bothWays) {
            int more = bothWays ? 2 : 1;
            if (arcs + more > MOST_ARCS) {
                fail(TOO_MANY, wordAt);
                return;
            }
            int from = nextNode();
            int to = nextNode();
            long weight = nextNumber(false, MOST_WEIGHT);
            if (fault == NO_FAULT && weight * more >= SUM_LIMIT - sum) {
                fail(BAD_NUMBER, wordAt);
            }
            if (fault == NO_FAULT) {
                putArc(from, to, weight);
                if (bothWays) {
                    putArc(to, from, weight);
                }
            }
        }

        private void putArc(int from, int to, long weight) {
            graph.putArc(arcs, from, to, weight);
            arcs++;
            sum += weight;
        }

        private int nextNode() {
            long number = nextNumber(false, Long.MAX_VALUE);
            if (fault == NO_FAULT && number >= nodes) {
                fail(NO_SUCH_NODE, wordAt);
            }
            return fault == NO_FAULT ? (int) number : NONE;
        }

        private long nextNumber(boolean signed, long most) {
            if (!nextWord()) {
                fail(BAD_WORD, at);
                return 0;
            }
            long number = numberOfWord(signed);
            if (number == NOT_A_NUMBER || number > most || number < -most) {
                fail(BAD_NUMBER, wordAt);
            }
            return number;
        }

        /** A number beyond all limits stays just beyond that of the weights, however long it is. */
        private long numberOfWord(boolean signed) {
            boolean negative = signed && tape.bytes[wordAt] == '-';
            int start = negative ? wordAt + 1 : wordAt;
            if (start >= at) {
                return NOT_A_NUMBER;
            }
            long number = 0;
            for (int i = start; i < at; i++) {
                int digit = tape.bytes[i] - '0';
                if (digit < 0 || digit > 9) {
                    return NOT_A_NUMBER;
                }
                number = number > MOST_WEIGHT / 10 ? MOST_WEIGHT + 1 : number * 10 + digit;
            }
            return negative ? -number : number;
        }

        /** Whether the line has one more word, which is from wordAt to at then; else at is the line's end. */
        private boolean nextWord() {
            if (fault != NO_FAULT) {
                return false;
            }
            skip(BLANK, BLANK);
            if (at < tape.size && tape.bytes[at] == '#') {
                skip(BLANK, LAST_BYTE);
            }
            if (at >= tape.size || tape.bytes[at] == LINE_END) {
                return false;
            }
            wordAt = at;
            skip(BLANK + 1, LAST_BYTE);
            if (at == wordAt) {
                fail(BAD_BYTE, at);
            }
            return fault == NO_FAULT;
        }

        private void skip(int least, int most) {
            for (int left = MOST_BYTES; left > 0 && at < tape.size; left--) {
                if (tape.bytes[at] < least || tape.bytes[at] > most) {
                    return;
                }
                at++;
            }
        }

        private boolean isWord(String word) {
            if (word.length() != at - wordAt) {
                return false;
            }
            for (int i = 0; i < word.length(); i++) {
                if (tape.bytes[wordAt + i] != word.charAt(i)) {
                    return false;
                }
            }
            return true;
        }

        /** Faults are met in the order of the text, so the first one stands. */
        private void fail(int number, int where) {
            if (fault == NO_FAULT) {
                fault = number;
                faultPlace = where;
            }
        }
    }

    /** The nodes, the arcs and the potentials. */
    private static final class Graph {
        final int[] xs = new int[MOST_NODES];
        final int[] ys = new int[MOST_NODES];
        final long[] potentials = new long[MOST_NODES];
        final int[] tails = new int[MOST_ARCS];
        final int[] heads = new int[MOST_ARCS];
        final long[] weights = new long[MOST_ARCS];
        final Net net = new Net();
        int nodes = 0;
        int arcs = 0;
        long sum = 0;

        boolean hasNode(int v) {
            return v >= 0 && v < nodes;
        }

        boolean hasArc(int a) {
            return a >= 0 && a < arcs;
        }

        void putNode(int number, int x, int y) {
            if (number >= 0 && number < MOST_NODES) {
                xs[number] = x;
                ys[number] = y;
                potentials[number] = 0;
            }
        }

        void putArc(int number, int from, int to, long weight) {
            if (number >= 0 && number < MOST_ARCS) {
                tails[number] = from;
                heads[number] = to;
                weights[number] = weight;
            }
        }

        /** So many nodes and arcs of those that were put are there from now on. */
        void take(int nodesNow, int arcsNow, long sumNow) {
            nodes = nodesNow;
            arcs = arcsNow;
            sum = sumNow;
            net.empty(nodes);
            for (int a = 0; a < arcs; a++) {
                if (tails[a] != heads[a]) {
                    net.offerArc(tails[a], heads[a], weights[a], a);
                }
            }
        }

        int touching(int[] ends, int v) {
            int many = 0;
            for (int a = 0; a < arcs; a++) {
                if (ends[a] == v) {
                    many++;
                }
            }
            return many;
        }

        long apart(int u, int v) {
            return Math.abs(xs[u] - xs[v]) + Math.abs(ys[u] - ys[v]);
        }

        int firstInconsistent(long[] values) {
            for (int a = 0; a < arcs; a++) {
                if (weights[a] + values[heads[a]] < values[tails[a]]) {
                    return a;
                }
            }
            return NONE;
        }
    }

    /** At most one edge from each node to each other one; a count of 0 means that there is none. */
    private static final class Net {
        final long[] lengths = new long[CELLS];
        final int[] counts = new int[CELLS];
        final int[] overs = new int[CELLS];
        final int[] arcNumbers = new int[CELLS];
        final boolean[] left = new boolean[MOST_NODES];
        int nodes = 0;

        static int cell(int from, int to) {
            return from * MOST_NODES + to;
        }

        boolean has(int from, int to) {
            return counts[cell(from, to)] > 0;
        }

        void empty(int nodesNow) {
            nodes = nodesNow;
            Arrays.fill(counts, 0);
            leaveAll();
        }

        void copy(Net other) {
            nodes = other.nodes;
            System.arraycopy(other.lengths, 0, lengths, 0, CELLS);
            System.arraycopy(other.counts, 0, counts, 0, CELLS);
            System.arraycopy(other.overs, 0, overs, 0, CELLS);
            System.arraycopy(other.arcNumbers, 0, arcNumbers, 0, CELLS);
            leaveAll();
        }

        private void leaveAll() {
            for (int v = 0; v < MOST_NODES; v++) {
                left[v] = true;
            }
        }

        void offerArc(int from, int to, long weight, int number) {
            int cell = cell(from, to);
            if (counts[cell] == 0 || weight < lengths[cell]) {
                lengths[cell] = weight;
                counts[cell] = 1;
                overs[cell] = NONE;
                arcNumbers[cell] = number;
            }
        }

        void putShortcut(int from, int over, int to) {
            int cell = cell(from, to);
            lengths[cell] = lengthVia(from, over, to);
            counts[cell] = countVia(from, over, to);
            overs[cell] = over;
            arcNumbers[cell] = NONE;
        }

        long lengthVia(int from, int over, int to) {
            return together(lengths[cell(from, over)], lengths[cell(over, to)]);
        }

        int countVia(int from, int over, int to) {
            return counts[cell(from, over)] + counts[cell(over, to)];
        }

        int howManyEdges(boolean shortcutsAlone) {
            int many = 0;
            for (int cell = 0; cell < CELLS; cell++) {
                if (counts[cell] > 0 && (!shortcutsAlone || overs[cell] != NONE)) {
                    many++;
                }
            }
            return many;
        }
    }

    /** The best walks from one node, or back to it, in a net's nodes that are left. */
    private static final class Ways {
        final long[] lengths = new long[MOST_NODES];
        final int[] counts = new int[MOST_NODES];
        final int[] row = new int[MOST_NODES];
        int size = 0;
        private final boolean[] done = new boolean[MOST_NODES];

        /** Nodes of a length beyond the limit may keep a walk that is not the best, or none. */
        void run(Net net, int start, boolean backwards, long limit) {
            size = 0;
            for (int v = 0; v < net.nodes; v++) {
                counts[v] = NONE;
                done[v] = false;
            }
            lengths[start] = 0;
            counts[start] = 0;
            for (int turn = 0; turn < net.nodes; turn++) {
                int v = nearest(net.nodes);
                if (v == NONE || lengths[v] > limit) {
                    return;
                }
                done[v] = true;
                row[size] = v;
                size++;
                goOnFrom(net, v, backwards);
            }
        }

        private int nearest(int nodes) {
            int best = NONE;
            for (int v = 0; v < nodes; v++) {
                if (counts[v] != NONE && !done[v]
                        && (best == NONE || isBetter(lengths[v], counts[v], lengths[best], counts[best]))) {
                    best = v;
                }
            }
            return best;
        }

        private void goOnFrom(Net net, int v, boolean backwards) {
            for (int x = 0; x < net.nodes; x++) {
                int cell = backwards ? Net.cell(x, v) : Net.cell(v, x);
                if (net.counts[cell] > 0 && net.left[x] && !done[x]) {
                    long length = together(lengths[v], net.lengths[cell]);
                    int count = counts[v] + net.counts[cell];
                    if (counts[x] == NONE || isBetter(length, count, lengths[x], counts[x])) {
                        lengths[x] = length;
                        counts[x] = count;
                    }
                }
            }
        }

        boolean isWorse(int v, long length, int count) {
            return counts[v] == NONE || isBetter(length, count, lengths[v], counts[v]);
        }
    }

    /** What the latest search settled. */
    private static final class Trail {
        private static final int SEEN_AHEAD = 1;
        private static final int SEEN_BACK = 2;

        final int[] nodes = new int[2 * MOST_NODES];
        final long[] lengths = new long[2 * MOST_NODES];
        final int[] counts = new int[2 * MOST_NODES];
        int size = 0;
        private final int[] seen = new int[MOST_NODES];

        boolean has(int i) {
            return i >= 0 && i < size;
        }

        int follow(Ways ways, long[] potentials, int goalNode) {
            size = 0;
            Arrays.fill(seen, 0);
            for (int turn = 0; turn < ways.size; turn++) {
                int v = nextOf(ways, potentials);
                if (v == NONE) {
                    break;
                }
                seen[v] = SEEN_AHEAD;
                put(ways, v);
                if (v == goalNode) {
                    break;
                }
            }
            return size;
        }

        private int nextOf(Ways ways, long[] potentials) {
            int best = NONE;
            for (int i = 0; i < ways.size; i++) {
                int v = ways.row[i];
                if (seen[v] == 0 && (best == NONE || comesAhead(ways, potentials, v, best))) {
                    best = v;
                }
            }
            return best;
        }

        private static boolean comesAhead(Ways ways, long[] potentials, int v, int u) {
            long keyV = ways.lengths[v] + potentials[v];
            long keyU = ways.lengths[u] + potentials[u];
            if (keyV == keyU && ways.counts[v] == ways.counts[u]) {
                return v < u;
            }
            return isBetter(keyV, ways.counts[v], keyU, ways.counts[u]);
        }

        /** Turn by turn the search whose next node is nearer settles it, till no better meeting can come. */
        int meet(Ways ahead, Ways back) {
            Arrays.fill(seen, 0);
            int i = 0;
            int j = 0;
            long best = NONE;
            for (int turn = 0; turn < 2 * MOST_NODES && i < ahead.size && j < back.size; turn++) {
                int u = ahead.row[i];
                int v = back.row[j];
                if (best != NONE && ahead.lengths[u] + back.lengths[v] >= best) {
                    break;
                }
                boolean goAhead = ahead.lengths[u] <= back.lengths[v];
                int now = goAhead ? u : v;
                seen[now] |= goAhead ? SEEN_AHEAD : SEEN_BACK;
                i += goAhead ? 1 : 0;
                j += goAhead ? 0 : 1;
                if (seen[now] == (SEEN_AHEAD | SEEN_BACK)) {
                    long length = ahead.lengths[now] + back.lengths[now];
                    best = best == NONE ? length : Math.min(best, length);
                }
            }
            size = 0;
            putFirst(ahead, i);
            putFirst(back, j);
            return size;
        }

        private void putFirst(Ways ways, int many) {
            for (int i = 0; i < many; i++) {
                put(ways, ways.row[i]);
            }
        }

        private void put(Ways ways, int v) {
            if (size < nodes.length) {
                nodes[size] = v;
                lengths[size] = ways.lengths[v];
                counts[size] = ways.counts[v];
                size++;
            }
        }
    }

    /** The landmarks, and the potentials that they make towards a node. */
    private static final class Landmarks {
        final int[] nodes = new int[MOST_LANDMARKS];
        final long[] potentials = new long[MOST_NODES];
        int size = 0;
        private final Ways from = new Ways();
        private final Ways into = new Ways();

        void lookTowards(Net net, int t) {
            Arrays.fill(potentials, 0);
            for (int k = 0; k < size; k++) {
                from.run(net, nodes[k], false, NO_LIMIT);
                into.run(net, nodes[k], true, NO_LIMIT);
                for (int v = 0; v < net.nodes; v++) {
                    raise(v, gap(into, v, t));
                    raise(v, gap(from, t, v));
                }
            }
        }

        private void raise(int v, long value) {
            potentials[v] = Math.max(potentials[v], value);
        }

        /** How much greater the length of u is than that of v; none of u alone proves that no way leads on. */
        private static long gap(Ways ways, int u, int v) {
            if (ways.counts[v] == NONE) {
                return 0;
            }
            return ways.counts[u] == NONE ? LEADS_NOWHERE : ways.lengths[u] - ways.lengths[v];
        }
    }

    /** The contracted net: an edge is an UP edge of its tail or a DOWN edge of its head, whichever ranks lower. */
    private static final class Hierarchy {
        final Net net = new Net();
        final int[] ranks = new int[MOST_NODES];
        final int[] row = new int[MOST_NODES];
        boolean made = false;
        int placed = 0;
        int shortcuts = 0;
        int perShortcut = 4;
        int perEdge = 2;
        int perContracted = 1;
        private final Ways witnesses = new Ways();
        private final int[] contractedBeside = new int[MOST_NODES];
        private final int[] wantedFrom = new int[CELLS];
        private final int[] wantedTo = new int[CELLS];
        private int wanted = 0;

        void begin(Net arcs) {
            net.copy(arcs);
            Arrays.fill(contractedBeside, 0);
            placed = 0;
            shortcuts = 0;
            made = true;
        }

        /** The node of the least value. */
        int cheapest() {
            int best = NONE;
            int least = 0;
            for (int v = 0; v < net.nodes; v++) {
                if (net.left[v]) {
                    askForShortcuts(v);
                    int value = perShortcut * wanted - perEdge * edgesOf(v) + perContracted * contractedBeside[v];
                    if (best == NONE || value < least) {
                        best = v;
                        least = value;
                    }
                }
            }
            return best;
        }

        private int edgesOf(int v) {
            int many = 0;
            for (int x = 0; x < net.nodes; x++) {
                if (net.left[x]) {
                    many += (net.has(v, x) ? 1 : 0) + (net.has(x, v) ? 1 : 0);
                }
            }
            return many;
        }

        void contract(int v) {
            if (v < 0 || v >= net.nodes || !net.left[v]) {
                return;
            }
            askForShortcuts(v);
            for (int k = 0; k < wanted; k++) {
                net.putShortcut(wantedFrom[k], v, wantedTo[k]);
            }
            shortcuts += wanted;
            net.left[v] = false;
            for (int x = 0; x < net.nodes; x++) {
                if (net.left[x] && (net.has(v, x) || net.has(x, v))) {
                    contractedBeside[x]++;
                }
            }
            ranks[v] = placed;
            row[placed] = v;
            placed++;
        }

        /** Finds the pairs between which a shortcut over v is wanted; nothing of the net changes. */
        private void askForShortcuts(int v) {
            wanted = 0;
            net.left[v] = false;
            for (int u = 0; u < net.nodes; u++) {
                if (net.left[u] && net.has(u, v)) {
                    askFrom(u, v);
                }
            }
            net.left[v] = true;
        }

        private void askFrom(int u, int v) {
            long limit = NONE;
            for (int x = 0; x < net.nodes; x++) {
                if (isPair(u, v, x) && !isBridged(u, v, x)) {
                    limit = Math.max(limit, net.lengthVia(u, v, x));
                }
            }
            if (limit == NONE) {
                return;
            }
            witnesses.run(net, u, false, limit);
            for (int x = 0; x < net.nodes; x++) {
                if (isPair(u, v, x) && wanted < CELLS
                        && witnesses.isWorse(x, net.lengthVia(u, v, x), net.countVia(u, v, x))) {
                    wantedFrom[wanted] = u;
                    wantedTo[wanted] = x;
                    wanted++;
                }
            }
        }

        private boolean isPair(int u, int v, int x) {
            return x != u && net.left[x] && net.has(v, x);
        }

        /** The edge from u to x is a witness itself: no search need go so far for it, and any will meet it. */
        private boolean isBridged(int u, int v, int x) {
            int cell = Net.cell(u, x);
            return net.counts[cell] > 0 && !isBetter(net.lengthVia(u, v, x), net.countVia(u, v, x),
                    net.lengths[cell], net.counts[cell]);
        }

        boolean isUp(int from, int to) {
            return ranks[from] < ranks[to] && net.has(from, to);
        }

        boolean isDown(int from, int to) {
            return ranks[from] > ranks[to] && net.has(from, to);
        }

        int cellOf(int v, boolean down, int i) {
            int before = 0;
            for (int x = 0; x < net.nodes; x++) {
                if (down ? isDown(x, v) : isUp(v, x)) {
                    if (before == i) {
                        return down ? Net.cell(x, v) : Net.cell(v, x);
                    }
                    before++;
                }
            }
            return NONE;
        }
    }

    /** The latest query and its walk. */
    private static final class Route {
        private static final int TOP_PLACE = MOST_NODES;

        final int[] relaxedFrom = new int[CELLS];
        final int[] relaxedTo = new int[CELLS];
        final int[] walk = new int[MOST_NODES];
        boolean asked = false;
        int relaxedSize = 0;
        int relaxedUp = 0;
        int upSize = 0;
        int downSize = 0;
        int walkSize = 0;
        int shortcuts = 0;
        int top = NONE;
        long bestLength = 0;
        private final long[] upLengths = new long[MOST_NODES];
        private final int[] upCounts = new int[MOST_NODES];
        private final long[] downLengths = new long[MOST_NODES];
        private final int[] downCounts = new int[MOST_NODES];
        private final int[] chain = new int[2 * MOST_NODES + 1];

        void forget() {
            asked = false;
        }

        int ask(Hierarchy hierarchy, int s, int t) {
            asked = true;
            relaxedSize = 0;
            walkSize = 0;
            shortcuts = 0;
            upSize = climb(hierarchy, s, false, upLengths, upCounts);
            relaxedUp = relaxedSize;
            downSize = climb(hierarchy, t, true, downLengths, downCounts);
            findTop(hierarchy.net.nodes);
            if (top != NONE) {
                walkThrough(hierarchy, s, t);
            }
            return relaxedSize;
        }

        /** Edges lead from lower to higher ranks here, so one pass by ranks makes all that is best. */
        private int climb(Hierarchy hierarchy, int start, boolean down, long[] lengths, int[] counts) {
            int many = 0;
            Arrays.fill(counts, NONE);
            lengths[start] = 0;
            counts[start] = 0;
            for (int r = 0; r < hierarchy.placed; r++) {
                int v = hierarchy.row[r];
                if (counts[v] != NONE) {
                    many++;
                    relaxEdges(hierarchy, v, down, lengths, counts);
                }
            }
            return many;
        }

        private void relaxEdges(Hierarchy hierarchy, int v, boolean down, long[] lengths, int[] counts) {
            for (int x = 0; x < hierarchy.net.nodes; x++) {
                if (down ? hierarchy.isDown(x, v) : hierarchy.isUp(v, x)) {
                    int cell = down ? Net.cell(x, v) : Net.cell(v, x);
                    long length = together(lengths[v], hierarchy.net.lengths[cell]);
                    int count = counts[v] + hierarchy.net.counts[cell];
                    if (counts[x] == NONE || isBetter(length, count, lengths[x], counts[x])) {
                        lengths[x] = length;
                        counts[x] = count;
                    }
                    noteRelaxed(down ? x : v, down ? v : x);
                }
            }
        }

        private void noteRelaxed(int from, int to) {
            if (relaxedSize < CELLS) {
                relaxedFrom[relaxedSize] = from;
                relaxedTo[relaxedSize] = to;
                relaxedSize++;
            }
        }

        private void findTop(int nodes) {
            top = NONE;
            int bestCount = 0;
            for (int v = 0; v < nodes; v++) {
                if (upCounts[v] != NONE && downCounts[v] != NONE) {
                    long length = together(upLengths[v], downLengths[v]);
                    int count = upCounts[v] + downCounts[v];
                    if (top == NONE || isBetter(length, count, bestLength, bestCount)) {
                        top = v;
                        bestLength = length;
                        bestCount = count;
                    }
                }
            }
        }

        /** The nodes of the walk go both ways from the top's place in the chain. */
        private void walkThrough(Hierarchy hierarchy, int s, int t) {
            chain[TOP_PLACE] = top;
            int first = TOP_PLACE;
            for (int v = top; v != s && v != NONE && first > 0; v = chain[first]) {
                first--;
                chain[first] = nextBelow(hierarchy, v, false, upLengths, upCounts);
            }
            int last = TOP_PLACE;
            for (int v = top; v != t && v != NONE && last < 2 * MOST_NODES; v = chain[last]) {
                last++;
                chain[last] = nextBelow(hierarchy, v, true, downLengths, downCounts);
            }
            for (int i = first; i < last; i++) {
                walkEdge(hierarchy.net, chain[i], chain[i + 1]);
            }
        }

        /** The least node of a lower rank by whose edge the best of v is made. */
        private int nextBelow(Hierarchy hierarchy, int v, boolean down, long[] lengths, int[] counts) {
            for (int u = 0; u < hierarchy.net.nodes; u++) {
                if (counts[u] != NONE && (down ? hierarchy.isDown(v, u) : hierarchy.isUp(u, v))) {
                    int cell = down ? Net.cell(v, u) : Net.cell(u, v);
                    if (together(lengths[u], hierarchy.net.lengths[cell]) == lengths[v]
                            && counts[u] + hierarchy.net.counts[cell] == counts[v]) {
                        return u;
                    }
                }
            }
            return NONE;
        }

        private void walkEdge(Net net, int from, int to) {
            if (from == NONE || to == NONE) {
                return;
            }
            if (net.overs[Net.cell(from, to)] != NONE) {
                shortcuts++;
            }
            unpack(this, net, from, to, 0);
        }

        /** A shortcut goes over a node of a lower rank than its ends, so the depth stays below the nodes' number. */
        private static void unpack(Route route, Net net, int from, int to, int depth) {
            int cell = Net.cell(from, to);
            int over = net.overs[cell];
            if (over == NONE) {
                route.noteStep(net.arcNumbers[cell]);
            } else if (depth < MOST_NODES) {
                unpack(route, net, from, over, depth + 1);
                unpack(route, net, over, to, depth + 1);
            }
        }

        private void noteStep(int arcNumber) {
            if (walkSize < MOST_NODES) {
                walk[walkSize] = arcNumber;
                walkSize++;
            }
        }
    }
}
