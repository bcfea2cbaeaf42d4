/** Promises 2 to 5: feed, end, read, place. */
public final class TextTest {
    private static final String TWO_NODES = "node 1 2\nnode 3 4\n";

    private static void feedBringsTwentyBytes() {
        RoutePlanner p = new RoutePlanner();
        Check.due("feed", 20, p.feed(0x6e6f6465, 0x20312032, 0x0a6e6f64, 0x65202d33, 0x20340a20));
        Check.due("bytes", 20, p.total(2));
        Check.due("read", 0, p.read());
        Check.due("highest byte first, x", 1, p.about(0, 2));
        Check.due("highest byte first, y", 2, p.about(0, 3));
        Check.due("x of the second", -3, p.about(1, 2));
        Check.due("bytes after read", 0, p.total(2));
    }

    private static void feedStopsAtTwoThousand() {
        RoutePlanner p = new RoutePlanner();
        for (int k = 1; k <= 100; k++) {
            Check.due("feed " + k, 20 * k, p.feed(0x20202020, 0x20202020, 0x20202020, 0x20202020, 0x20202020));
        }
        Check.dueThrow("feed beyond 2000", IllegalStateException.class, () -> p.feed(0, 0, 0, 0, 0));
        Check.due("bytes", 2000, p.total(2));
        Check.due("end(1981)", 1981, p.end(1981));
        Check.dueThrow("feed to 2001", IllegalStateException.class, () -> p.feed(0, 0, 0, 0, 0));
        Check.due("none came", 1981, p.total(2));
        Check.due("end(1980)", 1980, p.end(1980));
        Check.due("feed to 2000", 2000, p.feed(0x20202020, 0x20202020, 0x20202020, 0x20202020, 0x20202009));
        Check.due("read", 1, p.read());
        Check.due("place of the last byte", 1999, p.place());
    }

    private static void endCuts() {
        RoutePlanner p = new RoutePlanner();
        Check.due("end(0) of an empty tape", 0, p.end(0));
        Check.dueThrow("end(1) of an empty tape", IllegalArgumentException.class, () -> p.end(1));
        p.feed(0x6e6f6465, 0x20312032, 0x20202020, 0x20202020, 0x20202020);
        Check.dueThrow("end(-1)", IllegalArgumentException.class, () -> p.end(-1));
        Check.dueThrow("end(21)", IllegalArgumentException.class, () -> p.end(21));
        Check.due("nothing happened", 20, p.total(2));
        Check.due("end(20)", 20, p.end(20));
        Check.due("end(6)", 6, p.end(6));
        Check.due("bytes", 6, p.total(2));
        Check.due("read", 2, p.read());
        Check.due("the line ends where the text does", 6, p.place());
    }

    private static void fault(int number, int place, String text) {
        RoutePlanner p = new RoutePlanner();
        String shown = text.replace('\n', '|');
        Check.due("read of " + shown, number, Check.readText(p, text));
        Check.due("place in " + shown, place, p.place());
        Check.due("bytes after " + shown, 0, p.total(2));
        if (number != 0) {
            Check.due("nodes after " + shown, 0, p.total(0));
            Check.due("arcs after " + shown, 0, p.total(1));
        }
    }

    private static void textsWithoutFault() {
        fault(0, -1, "");
        fault(0, -1, "\n\n  \n# a\n   ");
        fault(0, -1, "#");
        fault(0, -1, "  # node x ~ !");
        fault(0, -1, "node -0 0000000000000000000000000000001");
        fault(0, -1, "  node   1000000   -1000000   ");
        fault(0, -1, "node 1 2 #3\n");
        fault(0, -1, "node 1 2\narc 0 00 2305843009213693952\n");
        fault(0, -1, "node 1 2\nroad 0 0 2305843009213693951\narc 0 0 1");
    }

    private static void fullTapes() {
        fault(0, -1, "\n".repeat(2000));
        fault(1, 1999, "\n".repeat(1999) + "\t");
        fault(2, 1999, "\n".repeat(1999) + "x");
        fault(0, -1, " ".repeat(2000));
        fault(0, -1, "#".repeat(2000));
        fault(1, 1999, "#".repeat(1999) + "\t");
        fault(2, 0, "x".repeat(2000));
        fault(0, -1, "node " + "0".repeat(1993) + " 2");
        fault(3, 7, "node 1 " + "9".repeat(1993));
        fault(2, 2000, "node 1" + " ".repeat(1994));
    }

    private static void bytesThatCannotBe() {
        fault(1, 4, "node\t1 2");
        fault(1, 1, "#\t");
        fault(1, 8, "node 1 #\t\n");
        fault(1, 7, "node 1 \u007f2");
        fault(1, 0, "\u0000");
        fault(1, 9, "node 1 2\n\u00ff");
        fault(1, 6, "node 1\r\n");
        fault(2, 0, "no\tde 1 2");
        fault(3, 5, "node x\t");
    }

    private static void wordsThatCannotStand() {
        fault(2, 0, "nod 1 2");
        fault(2, 0, "nodes 1 2");
        fault(2, 2, "  Node 1 2");
        fault(2, 9, "node 1 2 3");
        fault(2, 4, "node");
        fault(2, 4, "node\n1 2");
        fault(2, 20, "node 1              \n");
        fault(2, 10, "node 1 # 2\n");
        fault(2, 13, "\nnode 1 2\narc");
        fault(2, 19, "node 1 2\narc 0 0 1 x");
        fault(2, 16, "node 1 2\narc 0 0\n");
        fault(2, 0, "1 node 2");
        fault(2, 0, "!");
        fault(2, 1, " ~#");
    }

    private static void numbersThatAreNone() {
        fault(3, 5, "node x 2");
        fault(3, 5, "node - 2");
        fault(3, 5, "node --1 2");
        fault(3, 5, "node +1 2");
        fault(3, 7, "node 1 2#");
        fault(3, 7, "node 1 1.0");
        fault(3, 5, "node 1000001 0");
        fault(3, 7, "node 0 -1000001");
        fault(3, 5, "node 99999999999999999999999999 0");
        fault(3, 17, "node 1 2\narc 0 0 -1");
        fault(3, 17, "node 1 2\narc 0 0 -0");
        fault(3, 13, "node 1 2\narc -0 0 1");
        fault(3, 15, "node 1 2\narc 0 x 1");
        fault(3, 17, "node 1 2\narc 0 0 2305843009213693953");
        fault(3, 17, "node 1 2\narc 0 0 18446744073709551616");
        fault(3, 18, "node 1 2\nroad 0 0 2305843009213693952");
        fault(3, 47, "node 1 2\narc 0 0 2305843009213693952\n  arc 0 0 2305843009213693952");
    }

    private static void nodesThatAreNot() {
        fault(4, 4, "arc 0 0 1");
        fault(4, 15, "node 1 2\narc 0 1 1");
        fault(4, 13, "node 1 2\narc 1 x 1");
        fault(4, 15, "node 1 2\narc 0 99999999999999999999 1");
        fault(4, 5, "road 0 0 1\nnode 1 2");
    }

    private static void oneTooMany() {
        RoutePlanner p = new RoutePlanner();
        for (int v = 0; v < 23; v++) {
            p.node(v, v);
        }
        Check.due("the 24th and 25th node", 5, Check.readText(p, "node 1 2\n node x\t"));
        Check.due("place", 10, p.place());
        Check.due("nothing came", 23, p.total(0));
        Check.due("the 24th node", 0, Check.readText(p, "node 1 2"));
        for (int a = 0; a < 298; a++) {
            p.arc(0, 1, 1);
        }
        Check.due("299 arcs and a road", 5, Check.readText(p, "arc 0 1 1\nroad x"));
        Check.due("place", 10, p.place());
        Check.due("298 arcs and a road", 0, Check.readText(p, "road 2 3 1"));
        Check.due("300 arcs", 300, p.total(1));
        Check.due("one arc more", 5, Check.readText(p, "arc"));
        Check.due("place", 0, p.place());
    }

    private static void readBringsAll() {
        RoutePlanner p = new RoutePlanner();
        p.node(9, 9);
        Check.due("read", 0, Check.readText(p, TWO_NODES + "arc 0 2 0005\nroad 1 2 7 # there and back\n"));
        Check.due("nodes", 3, p.total(0));
        Check.due("numbered on", 3, p.about(2, 2));
        Check.due("arcs", 3, p.total(1));
        Check.due("arc 0 from", 0, p.about(0, 0));
        Check.due("arc 0 to", 2, p.about(0, 1));
        Check.due("arc 0 weight", 5, p.weight(0));
        Check.due("arc 1 from", 1, p.about(1, 0));
        Check.due("arc 1 to", 2, p.about(1, 1));
        Check.due("arc 2 from", 2, p.about(2, 0));
        Check.due("arc 2 to", 1, p.about(2, 1));
        Check.due("arc 2 weight", 7, p.weight(2));
    }

    private static void theSumCountsPotentials() {
        RoutePlanner p = new RoutePlanner();
        p.node(0, 0);
        p.potential(0, -(1L << 60));
        p.arc(0, 0, 1L << 61);
        Check.due("2^60 - 1 more", 0, Check.readText(p, "arc 0 0 1152921504606846975"));
        Check.due("1 more", 3, Check.readText(p, "arc 0 0 1"));
        Check.due("place", 8, p.place());
        Check.due("0 more", 0, Check.readText(p, "road 0 0 0"));
        Check.due("place after a read without a fault", -1, p.place());
    }

    private static void readForgetsOnlyIfSomethingComes() {
        RoutePlanner p = new RoutePlanner();
        Check.readText(p, TWO_NODES + "road 0 1 1");
        p.prepare();
        p.search(0);
        p.query(0, 1);
        Check.due("a fault", 2, Check.readText(p, "node 1 2\nx"));
        Check.due("no words", 0, Check.readText(p, "# x"));
        Check.due("hierarchy stays", 1, p.ready());
        Check.due("search stays", 2, p.total(8));
        Check.due("query stays", 1, p.found());
        Check.due("a node", 0, Check.readText(p, "node 1 2"));
        Check.due("hierarchy is gone", 0, p.ready());
        Check.due("search is forgotten", 0, p.total(8));
        Check.due("query is forgotten", -1, p.found());
        p.prepare();
        Check.due("an arc", 0, Check.readText(p, "arc 0 2 1"));
        Check.due("hierarchy is gone by an arc", 0, p.ready());
    }

    private static void placeAheadOfAnyRead() {
        RoutePlanner p = new RoutePlanner();
        Check.due("place of a new object", -1, p.place());
        Check.readText(p, "x");
        Check.due("place", 0, p.place());
        p.clear();
        Check.due("place is gone by clear()", -1, p.place());
    }

    public static void main(String[] args) {
        feedBringsTwentyBytes();
        feedStopsAtTwoThousand();
        endCuts();
        textsWithoutFault();
        fullTapes();
        bytesThatCannotBe();
        wordsThatCannotStand();
        numbersThatAreNone();
        nodesThatAreNot();
        oneTooMany();
        readBringsAll();
        theSumCountsPotentials();
        readForgetsOnlyIfSomethingComes();
        placeAheadOfAnyRead();
        Check.finish("TextTest");
    }
}
