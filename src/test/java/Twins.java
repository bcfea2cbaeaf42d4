import java.util.ArrayList;
import java.util.List;

/** Two planners built alike: a call on one of them that must change nothing leaves it just like the other one. */
final class Twins {
    /** What builds a planner. */
    interface Build {
        void on(RoutePlanner p);
    }

    /** A call on a planner. */
    interface CallOn {
        long on(RoutePlanner p);
    }

    /** An object is used for 512 calls: so many are left for what builds it. */
    private static final int MOST_ANSWERS = 380;

    private Twins() {
    }

    /** The call throws what is due, and all is as it was. */
    static void refused(String what, Class<? extends RuntimeException> want, Build build, CallOn call) {
        outcomeAndNoChange(what, "throws." + want.getSimpleName(), build, call);
    }

    /** The call answers what is due, and all is as it was. */
    static void noChange(String what, long want, Build build, CallOn call) {
        outcomeAndNoChange(what, Long.toString(want), build, call);
    }

    private static void outcomeAndNoChange(String what, String want, Build build, CallOn call) {
        RoutePlanner p = new RoutePlanner();
        RoutePlanner twin = new RoutePlanner();
        build.on(p);
        build.on(twin);
        Check.due(what, want, Check.outcome(() -> call.on(p)));
        alike(what + ": all stays as it was", twin, p);
    }

    /** Whether two planners answer alike, whatever they are asked. Both have been used up then. */
    static void alike(String what, RoutePlanner want, RoutePlanner got) {
        List<String> due = new Twins.View(want).all();
        List<String> seen = new Twins.View(got).all();
        Check.due(what + ": so many answers are within what is promised", 1, due.size() <= MOST_ANSWERS ? 1 : 0);
        for (int i = 0; i < Math.min(due.size(), seen.size()); i++) {
            Check.due(what, due.get(i), seen.get(i));
        }
        Check.due(what + ": answers", due.size(), seen.size());
    }

    /** All that a planner can be asked; what changes it is asked last. */
    private static final class View {
        private final RoutePlanner p;
        private final int nodes;
        private final int firstNodes;
        private final int arcs;
        private final int settled;
        private final List<String> answers = new ArrayList<>();

        View(RoutePlanner p) {
            this.p = p;
            nodes = p.total(0);
            firstNodes = Math.min(nodes, 6);
            arcs = p.total(1);
            settled = Math.min(p.total(8), 12);
        }

        List<String> all() {
            totals();
            latestQuery();
            latestSearch();
            graph();
            hierarchy();
            landmarks();
            potentials();
            toldOrder();
            tape();
            factors();
            return answers;
        }

        private void see(String call, Check.Call answer) {
            answers.add(call + " = " + Check.outcome(answer));
        }

        private void totals() {
            for (int i = 0; i <= 8; i++) {
                int what = i;
                see("total(" + what + ")", () -> p.total(what));
            }
            see("place()", p::place);
            see("ready()", p::ready);
            see("inconsistent()", p::inconsistent);
        }

        private void latestQuery() {
            see("found()", p::found);
            for (int i = 0; i <= 4; i++) {
                int what = i;
                see("told(" + what + ")", () -> p.told(what));
                see("step(" + what + ")", () -> p.step(what));
                see("relaxed(" + what + ", 0)", () -> p.relaxed(what, 0));
                see("relaxed(" + what + ", 1)", () -> p.relaxed(what, 1));
            }
        }

        private void latestSearch() {
            for (int k = 0; k <= settled; k++) {
                int i = k;
                see("settled(" + i + ")", () -> p.settled(i));
                see("length(" + i + ")", () -> p.length(i));
                see("count(" + i + ")", () -> p.count(i));
            }
        }

        private void graph() {
            for (int k = 0; k < nodes; k++) {
                int v = k;
                see("about(" + v + ", 2)", () -> p.about(v, 2));
                see("about(" + v + ", 4)", () -> p.about(v, 4));
            }
            for (int k = 0; k < arcs; k += k < 10 ? 1 : 60) {
                int a = k;
                see("about(" + a + ", 0)", () -> p.about(a, 0));
                see("about(" + a + ", 1)", () -> p.about(a, 1));
                see("weight(" + a + ")", () -> p.weight(a));
            }
        }

        private void hierarchy() {
            for (int k = 0; k < firstNodes; k++) {
                int v = k;
                see("ranked(" + v + ")", () -> p.ranked(v));
                see("about(" + v + ", 6)", () -> p.about(v, 6));
                see("edge(" + v + ", up, 0, 0)", () -> p.edge(v, false, 0, 0));
                see("edgeLength(" + v + ", up, 0)", () -> p.edgeLength(v, false, 0));
                see("edgeLength(" + v + ", down, 0)", () -> p.edgeLength(v, true, 0));
            }
        }

        private void landmarks() {
            for (int k = 0; k < firstNodes; k++) {
                int v = k;
                see("bound(" + v + ", 2)", () -> p.bound(v, 2));
            }
            see("landmarked(0, 2)", () -> p.landmarked(0, 2));
        }

        private void potentials() {
            for (int k = 0; k < nodes; k++) {
                int v = k;
                see("potential(" + v + ", 0)", () -> p.potential(v, 0));
            }
        }

        private void toldOrder() {
            for (int k = nodes - 1; k >= 0; k--) {
                int v = k;
                see("order(" + v + ")", () -> p.order(v));
            }
            see("remake()", p::remake);
            for (int k = 0; k < firstNodes; k++) {
                int i = k;
                see("ranked(" + i + ")", () -> p.ranked(i));
            }
            see("prepareTold()", p::prepareTold);
            for (int k = 0; k < firstNodes; k++) {
                int i = k;
                see("ranked(" + i + ")", () -> p.ranked(i));
            }
        }

        private void tape() {
            see("read()", p::read);
            see("place()", p::place);
            see("total(0)", () -> p.total(0));
            see("total(1)", () -> p.total(1));
        }

        /** By 1, 2, 3 other nodes go first than by the factors that there are at first. */
        private void factors() {
            p.clear();
            GraphTest.starOf(p);
            see("prepare()", p::prepare);
            for (int k = 0; k < 4; k++) {
                int i = k;
                see("ranked(" + i + ")", () -> p.ranked(i));
            }
        }
    }
}
