/** Promises 2 to 5 at their boundaries: the tape's 2000 bytes, each byte that can be, each limit that a text can meet. */
public final class TextBoundsTest {
    private static final int BLANKS = 0x20202020;
    private static final String LONG_ZEROS = "0".repeat(1900);

    // ---- 2 feed

    private static void fillTape(RoutePlanner p, int bytes) {
        for (int k = 0; k * 20 < bytes; k++) {
            p.feed(k == 0 ? 0x6e6f6465 : BLANKS, k == 0 ? 0x20312032 : BLANKS, BLANKS, BLANKS, BLANKS);
        }
        p.end(bytes);
    }

    private static long feedBlanks(RoutePlanner p) {
        return p.feed(BLANKS, BLANKS, BLANKS, BLANKS, BLANKS);
    }

    private static void feedUpToTheLimit() {
        for (int bytes : new int[] {0, 1, 19, 20, 1959, 1960, 1979, 1980}) {
            RoutePlanner p = new RoutePlanner();
            fillTape(p, bytes);
            Check.due("2 feed behind " + bytes + " bytes", bytes + 20, feedBlanks(p));
            Check.due("2 feed: bytes", bytes + 20, p.total(2));
        }
    }

    private static void feedBeyondTheLimit() {
        for (int bytes : new int[] {1981, 1982, 1999, 2000}) {
            Twins.refused("2 feed behind " + bytes + " bytes", IllegalStateException.class,
                    p -> fillTape(p, bytes), p -> p.feed(-1, -1, -1, -1, -1));
        }
        RoutePlanner p = new RoutePlanner();
        fillTape(p, 2000);
        p.read();
        Check.due("2 feed behind a full tape that was read", 20, feedBlanks(p));
    }

    /** Each of the twenty bytes stands where it must: a wrong one in its midst is found at its place. */
    private static void feedPutsTheHighestFirst() {
        for (int at = 0; at < 20; at++) {
            for (int bad : new int[] {0, 127, 128, 255}) {
                int[] n = {BLANKS, BLANKS, BLANKS, BLANKS, BLANKS};
                int shift = 24 - at % 4 * 8;
                n[at / 4] = BLANKS & ~(255 << shift) | bad << shift;
                RoutePlanner p = new RoutePlanner();
                p.feed(n[0], n[1], n[2], n[3], n[4]);
                Check.due("2 feed: byte " + bad + " at " + at + ", read", 1, p.read());
                Check.due("2 feed: byte " + bad + " at " + at + ", place", at, p.place());
            }
        }
    }

    // ---- 3 end

    private static void endWithin() {
        for (int bytes : new int[] {20, 1980, 2000}) {
            for (int n : new int[] {bytes, bytes - 1, 1, 0}) {
                RoutePlanner p = new RoutePlanner();
                fillTape(p, bytes);
                Check.due("3 end(" + n + ") of " + bytes, n, p.end(n));
                Check.due("3 end(" + n + ") of " + bytes + ": bytes", n, p.total(2));
            }
        }
        Twins.noChange("3 end(0) of an empty tape", 0, p -> p.node(1, 2), p -> p.end(0));
        Twins.noChange("3 end() of all bytes", 10, Scene::midst, p -> p.end(10));
    }

    private static void endBeyond() {
        for (int n : new int[] {-1, Integer.MIN_VALUE, 11, 20, 2001, Integer.MAX_VALUE}) {
            Twins.refused("3 end(" + n + ") of 10", IllegalArgumentException.class, Scene::midst, p -> p.end(n));
        }
        Twins.refused("3 end(2001) of 2000", IllegalArgumentException.class,
                p -> fillTape(p, 2000), p -> p.end(2001));
        Twins.refused("3 end(1) of an empty tape", IllegalArgumentException.class,
                p -> p.node(1, 2), p -> p.end(1));
        Twins.refused("3 end(10) after end(9)", IllegalArgumentException.class, p -> {
            Scene.midst(p);
            p.end(9);
        }, p -> p.end(10));
    }

    private static void endKeepsTheFirstBytes() {
        RoutePlanner p = new RoutePlanner();
        p.feed(0x6e6f6465, 0x20312032, 0x09090909, 0x09090909, 0x09090909);
        p.end(7);
        p.feed(0x2d352020, BLANKS, BLANKS, BLANKS, BLANKS);
        Check.due("3 end: bytes come behind the first n", 27, p.total(2));
        Check.due("3 end: read", 0, p.read());
        Check.due("3 end: y", -5, p.about(0, 3));
    }

    // ---- 4 read, 5 place

    private static void dueRead(RoutePlanner p, int fault, int place, String text) {
        String shown = text.length() > 60 ? text.substring(0, 60) + ".." : text;
        shown = shown.replace('\n', '|');
        Check.due("4 read of " + shown, fault, Check.readText(p, text));
        Check.due("5 place in " + shown, place, p.place());
        Check.due("4 read: bytes after " + shown, 0, p.total(2));
    }

    private static void dueNew(int fault, int place, String text) {
        dueRead(new RoutePlanner(), fault, place, text);
    }

    /** The fault behind a first line, which tells node 0 and so has nothing come either. */
    private static void dueBehindNode(int fault, int placeBehind, String text) {
        String ahead = "node 1 2\n";
        RoutePlanner p = new RoutePlanner();
        dueRead(p, fault, fault == 0 ? -1 : ahead.length() + placeBehind, ahead + text);
        Check.due("4 read of " + text + ": whether nodes come", fault == 0 ? 1 : 0, p.total(0) > 0 ? 1 : 0);
        if (fault != 0) {
            Check.due("4 read of " + text + ": arcs", 0, p.total(1));
        }
    }

    private static void readNothing() {
        Twins.noChange("4 read of an empty tape", 0, p -> {
            Scene.midst(p);
            p.read();
            p.prepare();
            p.search(0);
            p.query(0, 3);
        }, RoutePlanner::read);
        dueNew(0, -1, "");
        dueNew(0, -1, " ");
        dueNew(0, -1, "\n");
        dueNew(0, -1, "\n\n");
        dueNew(0, -1, "#");
        dueNew(0, -1, " # node\n #\n");
    }

    /** A fault takes the tape, and nothing else: what stood ahead of it in the text does not come. */
    private static void readFaultChangesNothing() {
        String[] texts = {"node 1 2\narc 0 5 3\n\t", "node 1 2\nroad 0 5 3\nx", "arc 0 1 9\nnode 1000001 0",
            "arc 0 1 0\narc 0 77 1", "node 1 2\n".repeat(20), "node 5 5\narc 0 1 1\nnode"};
        int[] faults = {1, 2, 3, 4, 5, 2};
        for (int k = 0; k < texts.length; k++) {
            RoutePlanner p = new RoutePlanner();
            RoutePlanner twin = new RoutePlanner();
            Scene.midst(p);
            Scene.midst(twin);
            p.end(0);
            Check.due("4 read: fault " + faults[k], faults[k], Check.readText(p, texts[k]));
            twin.end(0);
            Check.readText(p, "x");
            Check.readText(twin, "x");
            Twins.alike("4 read: nothing comes by fault " + faults[k], twin, p);
        }
    }

    private static void eachByteAlone() {
        for (int b = 0; b < 256; b++) {
            boolean can = b == 10 || b >= 32 && b <= 126;
            boolean means = can && b != 10 && b != 32 && b != '#';
            char c = (char) b;
            dueNew(!can ? 1 : means ? 2 : 0, can && !means ? -1 : 0, "" + c);
            dueNew(can ? 0 : 1, can ? -1 : 1, "#" + c);
            dueNew(can ? 0 : 1, can ? -1 : 4, "# # " + c + "\n");
            boolean ends = b == 10 || b == 32 || b >= '0' && b <= '9';
            dueNew(!can ? 1 : ends ? 0 : 3, ends ? -1 : can ? 7 : 8, "node 1 2" + c);
            boolean behind = b == 10 || b == 32 || b == '#';
            dueNew(!can ? 1 : behind ? 0 : 2, behind ? -1 : 9, "node 1 2 " + c);
        }
    }

    private static void lines() {
        dueNew(0, -1, "node 1 2");
        dueNew(0, -1, "node 1 2\n");
        dueNew(0, -1, "   node    1    2   \n\n   ");
        dueNew(0, -1, "node 1 2 #\nnode 3 4 #5 6 7\n#");
        dueNew(2, 4, "node");
        dueNew(2, 4, "node\n");
        dueNew(2, 5, "node \n");
        dueNew(2, 6, "node 1\n2");
        dueNew(2, 7, "node 1 ");
        dueNew(2, 8, "node 1 #\n2");
        dueNew(2, 11, "node 1 #2 3");
        dueNew(2, 9, "node 1 2 node 3 4");
        dueNew(2, 0, "2 node 1");
        dueBehindNode(2, 3, "arc");
        dueBehindNode(2, 5, "arc 0");
        dueBehindNode(2, 7, "arc 0 0\n1");
        dueBehindNode(2, 8, "road 0 0");
        dueBehindNode(2, 11, "road 0 0 1 1");
        dueBehindNode(0, 0, "road 0 0 1 #1");
        dueBehindNode(2, 0, "roads 0 0 1");
        dueBehindNode(2, 0, "roa 0 0 1");
        dueBehindNode(2, 0, "ar 0 0 1");
        dueBehindNode(2, 0, "ARC 0 0 1");
        dueBehindNode(2, 0, "arc# 0 0 1");
    }

    /** Each letter of a word counts, and no letter may be more or less. */
    private static void wordsAlmostRight() {
        for (String word : new String[] {"node", "arc", "road"}) {
            String behind = word.equals("node") ? " 1 2" : " 0 0 1";
            dueBehindNode(0, 0, word + behind);
            for (int i = 0; i < word.length(); i++) {
                String ahead = word.substring(0, i);
                String rest = word.substring(i + 1);
                dueBehindNode(2, 0, ahead + "x" + rest + behind);
                dueBehindNode(2, 0, ahead + (char) (word.charAt(i) - 32) + rest + behind);
                dueBehindNode(2, 0, ahead + rest + behind);
                dueBehindNode(2, 0, ahead + word.charAt(i) + word.charAt(i) + rest + behind);
            }
        }
    }

    private static void placesOfNodes() {
        for (int at : new int[] {-1000000, -999999, 999999, 1000000}) {
            RoutePlanner p = new RoutePlanner();
            dueRead(p, 0, -1, "node " + at + " " + -at);
            Check.due("4 read: x " + at, at, p.about(0, 2));
            Check.due("4 read: y " + -at, -at, p.about(0, 3));
        }
        for (String beyond : new String[] {"-1000001", "1000001", "4294967296", "18446744073709551616",
            "-18446744073709551616", "9223372036854775808", "-9223372036854775808", "9".repeat(1900),
            "-" + "9".repeat(1900), "10000000000000000000000000000001"}) {
            dueNew(3, 5, "node " + beyond + " 0");
            dueNew(3, 7, "node 0 " + beyond);
        }
        RoutePlanner p = new RoutePlanner();
        dueRead(p, 0, -1, "node -0 -" + LONG_ZEROS + "7");
        Check.due("4 read: x -0", 0, p.about(0, 2));
        Check.due("4 read: y behind 0s", -7, p.about(0, 3));
        dueNew(3, 5, "node -" + LONG_ZEROS + "1000001 0");
    }

    private static void wordsThatAreNoNumbers() {
        for (String word : new String[] {"-", "--1", "1-", "+1", "0x1", "1.0", "1e3", "x", "1#", "/", ":", "1/", "1:"}) {
            dueNew(3, 5, "node " + word + " 0");
            dueNew(3, 7, "node 0 " + word);
            dueBehindNode(3, 4, "arc " + word + " 0 1");
            dueBehindNode(3, 6, "arc 0 " + word + " 1");
            dueBehindNode(3, 9, "road 0 0 " + word);
        }
        for (String word : new String[] {"-0", "-1"}) {
            dueBehindNode(3, 5, "road " + word + " 0 1");
            dueBehindNode(3, 7, "road 0 " + word + " 1");
            dueBehindNode(3, 8, "arc 0 0 " + word);
        }
    }

    private static void weights() {
        for (long w : new long[] {0, 1, Scene.MOST_WEIGHT - 1, Scene.MOST_WEIGHT}) {
            RoutePlanner p = new RoutePlanner();
            dueRead(p, 0, -1, "node 1 2\narc 0 0 000" + w);
            Check.due("4 read: weight " + w, w, p.weight(0));
        }
        RoutePlanner p = new RoutePlanner();
        dueRead(p, 0, -1, "node 1 2\narc 0 0 " + LONG_ZEROS + Scene.MOST_WEIGHT);
        Check.due("4 read: weight behind 0s", Scene.MOST_WEIGHT, p.weight(0));
        for (String beyond : new String[] {"2305843009213693953", "2305843009213693959", "2305843009213693960",
            "4611686018427387904", "9223372036854775807", "9223372036854775808", "18446744073709551616",
            "18446744073709551617", "99999999999999999999", "9".repeat(1900)}) {
            dueBehindNode(3, 8, "arc 0 0 " + beyond);
            dueBehindNode(3, 9, "road 0 0 " + beyond);
        }
    }

    private static void allWeightsTogether() {
        String half = "arc 0 0 2305843009213693952\n";
        dueBehindNode(0, 0, half + "arc 0 0 2305843009213693951");
        dueBehindNode(3, half.length() + 8, half + "arc 0 0 2305843009213693952");
        dueBehindNode(3, half.length() + 9, half + "road 0 0 1152921504606846976");
        dueBehindNode(0, 0, half + "road 0 0 1152921504606846975\narc 0 0 1\nroad 0 0 0");
        dueBehindNode(3, half.length() + 29 + 10, half + "road 0 0 1152921504606846975\n  arc 0 0 2");
        dueBehindNode(0, 0, "road 0 0 2305843009213693951\narc 0 0 1");
        dueBehindNode(3, 9, "road 0 0 2305843009213693952");
        dueBehindNode(3, 29 + 9, "road 0 0 2305843009213693951\nroad 0 0 1");
    }

    private static void weightsWithThoseThatThereAre() {
        for (long left : new long[] {0, 1, 7}) {
            RoutePlanner p = new RoutePlanner();
            Scene.fullOfWeight(p, left);
            p.end(0);
            dueRead(p, 3, 8, "arc 0 1 " + (left + 1));
            dueRead(p, 3, 9, "road 0 1 " + (left / 2 + 1));
            dueRead(p, 0, -1, "road 0 1 0\narc 0 1 " + left);
            dueRead(p, 3, 8, "arc 0 1 1");
        }
        RoutePlanner p = new RoutePlanner();
        p.node(0, 0);
        p.node(0, 0);
        p.potential(0, Scene.MOST_POTENTIAL);
        p.potential(1, -Scene.MOST_POTENTIAL);
        dueRead(p, 3, 8, "arc 0 1 2305843009213693952");
        dueRead(p, 3, 9, "road 0 1 1152921504606846976");
        dueRead(p, 0, -1, "arc 0 1 2305843009213693951");
    }

    private static void nodesToldAhead() {
        dueNew(4, 4, "arc 0 0 1\nnode 1 2");
        dueBehindNode(0, 0, "arc 0 0 1");
        dueBehindNode(4, 4, "arc 1 0 1\nnode 3 4");
        dueBehindNode(4, 6, "arc 0 1 1\nnode 3 4");
        dueBehindNode(0, 0, "arc 0 00000000000000000000000000000000 1");
        dueBehindNode(4, 6, "arc 0 00000000000000000000000000000001 1");
        dueBehindNode(4, 7, "road 0 4294967296 1");
        dueBehindNode(4, 5, "road 18446744073709551616 0 1");
        dueBehindNode(4, 5, "road " + "9".repeat(1900) + " 0 1");
        RoutePlanner p = new RoutePlanner();
        p.node(0, 0);
        dueRead(p, 4, 15, "node 1 1\narc 1 2 5");
        dueRead(p, 0, -1, "node 1 1\narc 1 0 5");
        dueRead(p, 0, -1, "node 2 2\nroad 2 1 5");
        Check.due("4 read: nodes are numbered on", 2, p.about(1, 0));
        RoutePlanner full = new RoutePlanner();
        dueRead(full, 4, 24 * 9 + 6, "node 0 0\n".repeat(24) + "arc 0 24 1");
        dueRead(full, 0, -1, "node 0 0\n".repeat(24) + "arc 0 23 1");
    }

    private static void oneNodeTooMany() {
        String node = "node 0 0\n";
        for (int there : new int[] {0, 1, 22, 23, 24}) {
            RoutePlanner p = new RoutePlanner();
            Check.readText(p, node.repeat(there));
            dueRead(p, 5, (24 - there) * 9 + 1, node.repeat(24 - there) + " node");
            Check.due("4 read: nodes", there, p.total(0));
            dueRead(p, 5, (24 - there) * 9, node.repeat(24 - there) + "node x \t");
            dueRead(p, 0, -1, node.repeat(24 - there));
            Check.due("4 read: nodes", 24, p.total(0));
        }
        RoutePlanner p = new RoutePlanner();
        dueRead(p, 0, -1, node.repeat(24) + "#node 0 0");
        dueRead(p, 2, 0, "nodes");
    }

    private static void oneArcTooMany() {
        String arc = "arc 0 0 0\n";
        for (int there : new int[] {130, 298, 299, 300}) {
            RoutePlanner p = new RoutePlanner();
            p.node(0, 0);
            Check.readText(p, "road 0 0 0\n".repeat(there / 2) + arc.repeat(there % 2));
            Check.due("4 read: arcs", there, p.total(1));
            dueRead(p, 5, (300 - there) * 10 + 1, arc.repeat(300 - there) + " arc x");
            dueRead(p, 5, (300 - there) * 10, arc.repeat(300 - there) + "road 9 9 9");
            Check.due("4 read: arcs", there, p.total(1));
            dueRead(p, 0, -1, arc.repeat(300 - there));
            Check.due("4 read: arcs", 300, p.total(1));
        }
    }

    private static void oneRoadTooMany() {
        for (int there : new int[] {297, 298, 299, 300}) {
            RoutePlanner p = new RoutePlanner();
            p.node(0, 0);
            Check.readText(p, "road 0 0 0\n".repeat(there / 2) + "arc 0 0 0\n".repeat(there % 2));
            int fault = there <= 298 ? 0 : 5;
            dueRead(p, fault, fault == 0 ? -1 : 0, "road 0 0 0");
            Check.due("4 read: arcs", fault == 0 ? there + 2 : there, p.total(1));
        }
    }

    /** Each word is asked as it is read, ahead of the next one. */
    private static void firstAlongTheText() {
        dueNew(2, 0, "nod\t");
        dueNew(2, 0, "nod \t");
        dueNew(3, 5, "node x\t");
        dueNew(3, 5, "node x");
        dueNew(3, 5, "node x x x");
        dueNew(1, 6, "node 1\t");
        dueNew(1, 7, "node 1 \t");
        dueNew(1, 8, "node 1 2\tx");
        dueNew(3, 7, "node 1 x\t3");
        dueNew(1, 0, "\tnod");
        dueBehindNode(4, 4, "arc 1 x");
        dueBehindNode(4, 4, "arc 1");
        dueBehindNode(3, 4, "arc x 1");
        dueBehindNode(4, 6, "arc 0 1 x\t");
        dueBehindNode(3, 8, "arc 0 0 x x");
        dueBehindNode(1, 3, "arc\t1");
        dueNew(2, 0, "x\nnode x");
        dueNew(3, 5, "node x\nx\n\t");
    }

    private static void placeIsThatOfTheLatestRead() {
        RoutePlanner p = new RoutePlanner();
        Check.due("5 place ahead of any read", -1, p.place());
        dueRead(p, 2, 3, "   x");
        dueRead(p, 2, 1, " x");
        p.node(0, 0);
        p.arc(0, 0, 1);
        p.search(0);
        p.prepare();
        Check.feedText(p, "  x");
        p.end(2);
        Check.due("5 place stays till the next read", 1, p.place());
        Check.due("5 place: asked again", 1, p.place());
        Check.due("4 read", 0, p.read());
        Check.due("5 place of a read without a fault", -1, p.place());
        dueRead(p, 2, 0, "x");
        dueRead(p, 0, -1, "");
        dueRead(p, 1, 1999, " ".repeat(1999) + "\t");
        p.clear();
        Check.due("5 place after clear()", -1, p.place());
    }

    private static void wholeTapes() {
        dueNew(0, -1, "\n".repeat(2000));
        dueNew(0, -1, "#".repeat(2000));
        dueNew(2, 0, "n".repeat(2000));
        dueNew(2, 1999, "\n".repeat(1999) + "n");
        dueNew(2, 2000, " ".repeat(1994) + "node 1");
        dueNew(0, -1, " ".repeat(1992) + "node 1 2");
        dueNew(3, 1999, " ".repeat(1992) + "node 1 x");
        dueNew(0, -1, "\n".repeat(1990) + "node 1 2 #");
        dueNew(0, -1, "node 0 0\n" + "arc 0 0 0\n".repeat(199));
    }

    public static void main(String[] args) {
        feedUpToTheLimit();
        feedBeyondTheLimit();
        feedPutsTheHighestFirst();
        endWithin();
        endBeyond();
        endKeepsTheFirstBytes();
        readNothing();
        readFaultChangesNothing();
        eachByteAlone();
        lines();
        wordsAlmostRight();
        placesOfNodes();
        wordsThatAreNoNumbers();
        weights();
        allWeightsTogether();
        weightsWithThoseThatThereAre();
        nodesToldAhead();
        oneNodeTooMany();
        oneArcTooMany();
        oneRoadTooMany();
        firstAlongTheText();
        placeIsThatOfTheLatestRead();
        wholeTapes();
        Check.finish("TextBoundsTest");
    }
}
