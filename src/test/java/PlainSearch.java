import java.util.ArrayList;
import java.util.BitSet;
import java.util.List;

/**
 * The document's terms by plain search, without the theorem about entries: the branchings
 * are really grown, in all ways, so that a fault in the program is not repeated here.
 */
final class PlainSearch {
    final int vertices;
    final List<int[]> arcs;
    final List<Integer> roots;
    private final BitSet hopeless = new BitSet();

    PlainSearch(int vertices, List<int[]> arcs, List<Integer> roots) {
        this.vertices = vertices;
        this.arcs = new ArrayList<>(arcs);
        this.roots = new ArrayList<>(roots);
    }

    int all() {
        return (1 << vertices) - 1;
    }

    boolean packs() {
        return canGoOn(0, roots.isEmpty() ? all() : roots.get(0), 0);
    }

    /** Whether this branching and those behind it can come to have all vertices by arcs not used. */
    private boolean canGoOn(int branching, int has, int used) {
        if (branching >= roots.size()) {
            return true;
        }
        if (has == all()) {
            int next = branching + 1;
            return canGoOn(next, next < roots.size() ? roots.get(next) : all(), used);
        }
        int state = (branching << arcs.size() | used) << vertices | has;
        if (hopeless.get(state)) {
            return false;
        }
        for (int e = 0; e < arcs.size(); e++) {
            if (grows(e, has, used) && canGoOn(branching, has | 1 << arcs.get(e)[1], used | 1 << e)) {
                return true;
            }
        }
        hopeless.set(state);
        return false;
    }

    private boolean grows(int e, int has, int used) {
        return (used >> e & 1) == 0 && (has >> arcs.get(e)[0] & 1) == 1 && (has >> arcs.get(e)[1] & 1) == 0;
    }

    /** ways[branching][vertex] of THE PACKING; -1 where there is none. */
    int[][] ways() {
        int[][] ways = new int[roots.size()][vertices];
        for (int[] row : ways) {
            java.util.Arrays.fill(row, -1);
        }
        if (!packs()) {
            return ways;
        }
        int used = 0;
        for (int branching = 0; branching < roots.size(); branching++) {
            int has = roots.get(branching);
            while (has != all()) {
                int e = 0;
                while (!grows(e, has, used) || !canGoOn(branching, has | 1 << arcs.get(e)[1], used | 1 << e)) {
                    e++;
                }
                ways[branching][arcs.get(e)[1]] = e;
                has |= 1 << arcs.get(e)[1];
                used |= 1 << e;
            }
        }
        return ways;
    }

    int[] owners() {
        int[] owners = new int[arcs.size()];
        java.util.Arrays.fill(owners, -1);
        int[][] ways = ways();
        for (int branching = 0; branching < ways.length; branching++) {
            for (int e : ways[branching]) {
                if (e >= 0) {
                    owners[e] = branching;
                }
            }
        }
        return owners;
    }

    boolean spare(int e) {
        List<int[]> rest = new ArrayList<>(arcs);
        rest.remove(e);
        return new PlainSearch(vertices, rest, roots).packs();
    }

    int most(int rootSet) {
        if (rootSet == all()) {
            return 99;
        }
        List<Integer> many = new ArrayList<>();
        many.add(rootSet);
        while (new PlainSearch(vertices, arcs, many).packs()) {
            many.add(rootSet);
        }
        return many.size() - 1;
    }

    int entry(int set) {
        int size = 0;
        for (int[] arc : arcs) {
            if (members(set).contains(arc[1]) && !members(set).contains(arc[0])) {
                size++;
            }
        }
        return size;
    }

    int missed(int set) {
        int size = 0;
        for (int rootSet : roots) {
            List<Integer> common = members(set);
            common.retainAll(members(rootSet));
            if (common.isEmpty()) {
                size++;
            }
        }
        return size;
    }

    int stopper() {
        for (int set : setsInOrder(vertices)) {
            if (set != 0 && entry(set) < missed(set)) {
                return set;
            }
        }
        return 0;
    }

    static List<Integer> setsInOrder(int vertices) {
        List<Integer> sets = new ArrayList<>();
        for (int set = 0; set < 1 << vertices; set++) {
            sets.add(set);
        }
        sets.sort((x, y) -> compare(members(x), members(y)));
        return sets;
    }

    private static int compare(List<Integer> x, List<Integer> y) {
        if (x.size() != y.size()) {
            return x.size() - y.size();
        }
        for (int i = 0; i < x.size(); i++) {
            if (!x.get(i).equals(y.get(i))) {
                return x.get(i) - y.get(i);
            }
        }
        return 0;
    }

    static List<Integer> members(int set) {
        List<Integer> members = new ArrayList<>();
        for (int k = 0; k < 31; k++) {
            if ((set >> k & 1) == 1) {
                members.add(k);
            }
        }
        return members;
    }
}
