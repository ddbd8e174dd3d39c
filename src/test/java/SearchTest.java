import java.util.ArrayList;
import java.util.List;
import java.util.Random;

/** Long runs of changes, by a fixed seed, with every answer compared with the plain search. */
public final class SearchTest {
    private final Random random;
    private final Run run = new Run();
    private final List<int[]> arcs = new ArrayList<>();
    private final List<Integer> roots = new ArrayList<>();
    private int vertices = 1;
    private String told = "";

    private SearchTest(long seed) {
        random = new Random(seed);
    }

    public static void main(String[] args) {
        for (int seed = 0; seed < 400; seed++) {
            new SearchTest(seed).smallNet(2 + seed % 4);
        }
        for (int seed = 1000; seed < 1030; seed++) {
            new SearchTest(seed).fullNet();
        }
        for (int seed = 2000; seed < 2007; seed++) {
            new SearchTest(seed).ringOfRings();
        }
        Check.finish();
    }

    private void smallNet(int n) {
        begin(n);
        for (int i = random.nextInt(10); i > 0; i--) {
            addArc();
        }
        for (int i = random.nextInt(4); i > 0; i--) {
            plant(true);
        }
        compareAll();
        for (int i = 0; i < 8; i++) {
            change();
            compareAll();
        }
    }

    private void fullNet() {
        begin(6 + random.nextInt(2));
        while (arcs.size() < 14) {
            addArc();
        }
        plant(false);
        plant(false);
        compareAll();
        plant(false);
        compareAll();
        change();
        compareAll();
    }

    /** Nets of 7 vertices with two ways to each, so that two branchings from one root do pack. */
    private void ringOfRings() {
        begin(7);
        List<int[]> ring = new ArrayList<>();
        int skip = 2 + random.nextInt(4);
        for (int v = 0; v < 7; v++) {
            ring.add(new int[] {v, (v + 1) % 7});
            ring.add(new int[] {v, (v + skip) % 7});
        }
        java.util.Collections.shuffle(ring, random);
        for (int[] arc : ring) {
            addArc(arc[0], arc[1]);
        }
        plantRoots(1 << random.nextInt(7));
        plantRoots(1 << random.nextInt(7));
        compareAll();
        plantRoots(127 - (1 << random.nextInt(7)));
        compareAll();
        change();
        compareAll();
    }

    private void change() {
        int kind = random.nextInt(8);
        if (kind < 3) {
            addArc();
        } else if (kind < 5 && !arcs.isEmpty()) {
            int e = random.nextInt(arcs.size());
            told += " drop " + e;
            Check.due(told, run.drop(e), 1);
            arcs.remove(e);
        } else if (kind == 5) {
            told += " fell";
            Check.due(told, run.fell(), roots.size() - 1);
            if (!roots.isEmpty()) {
                roots.remove(roots.size() - 1);
            }
        } else if (kind == 6 && random.nextInt(6) == 0) {
            begin(vertices);
        } else {
            plant(true);
        }
    }

    private void begin(int n) {
        told += " begin " + n;
        Check.due(told, run.begin(n), 1);
        vertices = n;
        arcs.clear();
        roots.clear();
    }

    private void addArc() {
        int a = random.nextInt(vertices);
        int b = (a + 1 + random.nextInt(vertices - 1)) % vertices;
        addArc(a, b);
    }

    private void addArc(int a, int b) {
        told += " arc " + a + "-" + b;
        int number = arcs.size() < 14 ? arcs.size() : -1;
        Check.due(told, run.arc(a, b), number);
        if (number >= 0) {
            arcs.add(new int[] {a, b});
        }
    }

    private void plant(boolean anySet) {
        plantRoots(anySet ? 1 + random.nextInt((1 << vertices) - 1) : 1 << random.nextInt(vertices) | 1);
    }

    private void plantRoots(int set) {
        told += " plant " + set;
        int number = roots.size() < 3 ? roots.size() : -1;
        Check.due(told, run.plant(set), number);
        if (number >= 0) {
            roots.add(set);
        }
    }

    private void compareAll() {
        PlainSearch search = new PlainSearch(vertices, arcs, roots);
        Check.due(told + " count(0)", run.ask().count(0), vertices);
        Check.due(told + " count(1)", run.ask().count(1), arcs.size());
        Check.due(told + " count(2)", run.ask().count(2), roots.size());
        Check.due(told + " packs()", run.ask().packs(), search.packs());
        Check.due(told + " stopper()", run.ask().stopper(), search.stopper());
        Check.due(told + " stopper() == 0", run.ask().stopper() == 0, run.ask().packs());
        compareArcs(search);
        compareWays(search);
        compareSets(search);
    }

    private void compareArcs(PlainSearch search) {
        int[] owners = search.owners();
        for (int e = 0; e < arcs.size(); e++) {
            Check.due(told + " owner(" + e + ")", run.ask().owner(e), owners[e]);
            Check.due(told + " spare(" + e + ")", run.ask().spare(e), search.spare(e));
            Check.due(told + " end(" + e + ", 0)", run.ask().end(e, 0), arcs.get(e)[0]);
            Check.due(told + " end(" + e + ", 1)", run.ask().end(e, 1), arcs.get(e)[1]);
        }
        Check.due(told + " owner(" + arcs.size() + ")", run.ask().owner(arcs.size()), -1);
        Check.due(told + " spare(" + arcs.size() + ")", run.ask().spare(arcs.size()), false);
        Check.due(told + " end(" + arcs.size() + ", 0)", run.ask().end(arcs.size(), 0), -1);
    }

    private void compareWays(PlainSearch search) {
        int[][] ways = search.ways();
        for (int branching = 0; branching < 4; branching++) {
            for (int vertex = 0; vertex < 8; vertex++) {
                boolean known = branching < roots.size() && vertex < vertices;
                Check.due(told + " way(" + branching + ", " + vertex + ")", run.ask().way(branching, vertex),
                        known ? ways[branching][vertex] : -1);
            }
        }
    }

    private void compareSets(PlainSearch search) {
        for (int set = 0; set <= search.all(); set++) {
            Check.due(told + " entry(" + set + ")", run.ask().entry(set), search.entry(set));
            Check.due(told + " missed(" + set + ")", run.ask().missed(set), search.missed(set));
            if (set != 0) {
                Check.due(told + " most(" + set + ")", run.ask().most(set), search.most(set));
            }
        }
    }
}
