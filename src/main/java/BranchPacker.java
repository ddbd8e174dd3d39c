import java.util.Arrays;

/**
 * A net of one-way arcs and some branchings that are to grow in it from their
 * roots to all vertices, no two of them by the same arc.
 *
 * Sets of vertices are told as sums of 2^k for the vertex k.
 */
public final class BranchPacker {
    public static final int NONE = -1;

    private static final int VERTEX_LIMIT = 7;
    private static final int ARC_LIMIT = 14;
    private static final int BRANCHING_LIMIT = 3;
    private static final int ENDLESS = 99;

    private final Net net;
    private final Grove grove;
    private final Packing packing;

    public BranchPacker() {
        net = new Net();
        grove = new Grove();
        packing = new Packing();
    }

    public boolean begin(int n) {
        if (n < 1 || n > VERTEX_LIMIT) {
            return false;
        }
        net.restart(n);
        grove.size = 0;
        packing.isStale = true;
        return true;
    }

    public int arc(int a, int b) {
        if (net.arcCount >= ARC_LIMIT || !net.hasVertex(a) || !net.hasVertex(b) || a == b) {
            return NONE;
        }
        net.addArc(a, b);
        packing.isStale = true;
        return net.arcCount - 1;
    }

    public boolean drop(int e) {
        if (!net.hasArc(e)) {
            return false;
        }
        net.removeArc(e);
        packing.isStale = true;
        return true;
    }

    public int plant(int roots) {
        if (grove.size >= BRANCHING_LIMIT || roots == 0 || !net.hasSet(roots)) {
            return NONE;
        }
        grove.add(roots);
        packing.isStale = true;
        return grove.size - 1;
    }

    public int fell() {
        if (grove.size == 0) {
            return NONE;
        }
        grove.size--;
        packing.isStale = true;
        return grove.size;
    }

    public int count(int what) {
        switch (what) {
            case 0:
                return net.vertexCount;
            case 1:
                return net.arcCount;
            case 2:
                return grove.size;
            default:
                return NONE;
        }
    }

    public int end(int e, int which) {
        if (!net.hasArc(e) || which < 0 || which > 1) {
            return NONE;
        }
        return which == 0 ? net.tails[e] : net.heads[e];
    }

    public int entry(int set) {
        return net.hasSet(set) ? net.entrySize(set) : NONE;
    }

    public int missed(int set) {
        return net.hasSet(set) ? grove.missing(set) : NONE;
    }

    public boolean packs() {
        return firstStopper(NONE) == 0;
    }

    public int stopper() {
        return firstStopper(NONE);
    }

    public int owner(int e) {
        if (!net.hasArc(e)) {
            return NONE;
        }
        packing.refresh(net, grove);
        return packing.owners[e];
    }

    public int way(int branching, int vertex) {
        if (branching < 0 || branching >= grove.size || !net.hasVertex(vertex)) {
            return NONE;
        }
        packing.refresh(net, grove);
        for (int e = 0; e < net.arcCount; e++) {
            if (packing.owners[e] == branching && net.heads[e] == vertex) {
                return e;
            }
        }
        return NONE;
    }

    public boolean spare(int e) {
        return net.hasArc(e) && firstStopper(e) == 0;
    }

    public int most(int roots) {
        if (roots == 0 || !net.hasSet(roots)) {
            return NONE;
        }
        // All of them miss the same sets, so the least entry of such a set is the bound.
        int least = ENDLESS;
        for (int set = 1; set <= net.allVertices(); set++) {
            if ((set & roots) == 0) {
                least = Math.min(least, net.entrySize(set));
            }
        }
        return least;
    }

    /** The first set in ORDER that stops the branchings if the arc left out were not there, or 0. */
    private int firstStopper(int leftOut) {
        int first = 0;
        for (int set = 1; set <= net.allVertices(); set++) {
            if ((first == 0 || comesBefore(set, first)) && stops(set, leftOut)) {
                first = set;
            }
        }
        return first;
    }

    private boolean stops(int set, int leftOut) {
        int arcs = net.entrySize(set);
        if (leftOut != NONE && net.enters(leftOut, set)) {
            arcs--;
        }
        return arcs < grove.missing(set);
    }

    private static boolean comesBefore(int set, int other) {
        int size = Integer.bitCount(set);
        int otherSize = Integer.bitCount(other);
        if (size != otherSize) {
            return size < otherSize;
        }
        int different = set ^ other;
        int least = different & -different;
        return (set & least) != 0;
    }

    /** The vertices and the arcs. */
    private static final class Net {
        private final int[] tails = new int[ARC_LIMIT];
        private final int[] heads = new int[ARC_LIMIT];
        private int vertexCount = 1;
        private int arcCount = 0;

        void restart(int vertices) {
            vertexCount = vertices;
            arcCount = 0;
        }

        void addArc(int tail, int head) {
            tails[arcCount] = tail;
            heads[arcCount] = head;
            arcCount++;
        }

        void removeArc(int e) {
            arcCount--;
            for (int i = e; i < arcCount; i++) {
                tails[i] = tails[i + 1];
                heads[i] = heads[i + 1];
            }
        }

        boolean hasVertex(int vertex) {
            return vertex >= 0 && vertex < vertexCount;
        }

        boolean hasArc(int e) {
            return e >= 0 && e < arcCount;
        }

        boolean hasSet(int set) {
            return set >= 0 && set <= allVertices();
        }

        int allVertices() {
            return (1 << vertexCount) - 1;
        }

        boolean enters(int e, int set) {
            return (set & 1 << heads[e]) != 0 && (set & 1 << tails[e]) == 0;
        }

        int entrySize(int set) {
            int size = 0;
            for (int e = 0; e < arcCount; e++) {
                if (enters(e, set)) {
                    size++;
                }
            }
            return size;
        }
    }

    /** The branchings that are planted, each told by its roots. */
    private static final class Grove {
        private final int[] roots = new int[BRANCHING_LIMIT];
        private int size = 0;

        void add(int rootSet) {
            roots[size] = rootSet;
            size++;
        }

        int missing(int set) {
            int branchings = 0;
            for (int i = 0; i < size; i++) {
                if ((roots[i] & set) == 0) {
                    branchings++;
                }
            }
            return branchings;
        }
    }

    /** THE PACKING of the document: for each arc the branching that grows by it. */
    private static final class Packing {
        private final int[] owners = new int[ARC_LIMIT];
        /** For each set: how many unused arcs of its entry the branchings that miss it leave over. */
        private final int[] surplus = new int[1 << VERTEX_LIMIT];
        /** Whether the net or the grove has changed since the packing was found. */
        private boolean isStale = true;

        void refresh(Net net, Grove grove) {
            if (!isStale) {
                return;
            }
            isStale = false;
            Arrays.fill(owners, NONE);
            if (!measureSurplus(net, grove)) {
                return;
            }
            for (int branching = 0; branching < grove.size; branching++) {
                growToAll(net, branching, grove.roots[branching]);
            }
        }

        /** Answers whether no set is short of arcs, that is, whether there is a packing. */
        private boolean measureSurplus(Net net, Grove grove) {
            for (int set = 1; set <= net.allVertices(); set++) {
                surplus[set] = net.entrySize(set) - grove.missing(set);
                if (surplus[set] < 0) {
                    return false;
                }
            }
            return true;
        }

        private void growToAll(Net net, int branching, int roots) {
            int has = roots;
            for (int step = 1; step < net.vertexCount; step++) {
                int e = leastSafeArc(net, has);
                if (e == NONE) {
                    return;
                }
                use(net, e, branching, has);
                has |= 1 << net.heads[e];
            }
        }

        private int leastSafeArc(Net net, int has) {
            for (int e = 0; e < net.arcCount; e++) {
                if (owners[e] == NONE && leadsOut(net, e, has) && isSafe(net, e, has)) {
                    return e;
                }
            }
            return NONE;
        }

        private static boolean leadsOut(Net net, int e, int has) {
            return (has & 1 << net.tails[e]) != 0 && (has & 1 << net.heads[e]) == 0;
        }

        private boolean isSafe(Net net, int e, int has) {
            for (int set = 1; set <= net.allVertices(); set++) {
                if (takesFrom(net, e, has, set) && surplus[set] < 1) {
                    return false;
                }
            }
            return true;
        }

        private void use(Net net, int e, int branching, int has) {
            owners[e] = branching;
            for (int set = 1; set <= net.allVertices(); set++) {
                if (takesFrom(net, e, has, set)) {
                    surplus[set]--;
                }
            }
        }

        /**
         * A set that the growing branching misses loses an arc of its entry, but also the
         * branching that misses it, so only the sets that it has a vertex of have one less left over.
         */
        private static boolean takesFrom(Net net, int e, int has, int set) {
            return (set & has) != 0 && net.enters(e, set);
        }
    }
}
