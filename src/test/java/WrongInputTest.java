/** Calls with every kind of odd number, in many states: none fails, and none that is refused changes anything. */
public final class WrongInputTest {
    private static final int[] ODD = {
        Integer.MIN_VALUE, Integer.MIN_VALUE + 1, -129, -128, -127, -33, -32, -31, -2, -1, 7, 8, 13, 14, 15, 31, 32, 33,
        63, 64, 65, 127, 128, 129, 255, 256, 1 << 30, Integer.MAX_VALUE - 1, Integer.MAX_VALUE};

    public static void main(String[] args) {
        for (int vertices = 1; vertices <= 7; vertices++) {
            for (int arcs = 0; arcs <= 14; arcs += 7) {
                for (int branchings = 0; branchings <= 3; branchings++) {
                    refusals(vertices, vertices == 1 ? 0 : arcs, branchings);
                }
            }
        }
        Check.finish();
    }

    private static BranchPacker make(int vertices, int arcs, int branchings) {
        BranchPacker x = new BranchPacker();
        x.begin(vertices);
        for (int e = 0; e < arcs; e++) {
            x.arc(e % vertices, (e + 1 + e / vertices % (vertices - 1)) % vertices);
        }
        for (int i = 0; i < branchings; i++) {
            x.plant(1);
        }
        return x;
    }

    private static void refusals(int vertices, int arcs, int branchings) {
        String net = "net of " + vertices + ", " + arcs + ", " + branchings + ": ";
        String before = Nets.all(make(vertices, arcs, branchings));
        for (int odd : ODD) {
            BranchPacker x = make(vertices, arcs, branchings);
            if (odd < 1 || odd > 7) {
                Check.due(net + "begin(" + odd + ")", x.begin(odd), false);
            }
            oddVertex(net, x, vertices, odd);
            oddArc(net, x, arcs, odd);
            oddSet(net, x, vertices, odd);
            if (odd < 0 || odd > 2) {
                Check.due(net + "count(" + odd + ")", x.count(odd), -1);
            }
            if (odd < 0 || odd > 1) {
                Check.due(net + "end(0, " + odd + ")", x.end(0, odd), -1);
            }
            if (odd < 0 || odd >= branchings) {
                Check.due(net + "way(" + odd + ", 0)", x.way(odd, 0), -1);
            }
            Check.same(net + "all behind " + odd, Nets.all(x), before);
        }
    }

    private static void oddVertex(String net, BranchPacker x, int vertices, int odd) {
        if (odd >= 0 && odd < vertices) {
            return;
        }
        Check.due(net + "arc(0, " + odd + ")", x.arc(0, odd), -1);
        Check.due(net + "arc(" + odd + ", 0)", x.arc(odd, 0), -1);
        Check.due(net + "arc(" + odd + ", " + odd + ")", x.arc(odd, odd), -1);
        Check.due(net + "way(0, " + odd + ")", x.way(0, odd), -1);
    }

    private static void oddArc(String net, BranchPacker x, int arcs, int odd) {
        if (odd >= 0 && odd < arcs) {
            return;
        }
        Check.due(net + "drop(" + odd + ")", x.drop(odd), false);
        Check.due(net + "end(" + odd + ", 0)", x.end(odd, 0), -1);
        Check.due(net + "end(" + odd + ", 1)", x.end(odd, 1), -1);
        Check.due(net + "owner(" + odd + ")", x.owner(odd), -1);
        Check.due(net + "spare(" + odd + ")", x.spare(odd), false);
    }

    private static void oddSet(String net, BranchPacker x, int vertices, int odd) {
        Check.due(net + "plant(0)", x.plant(0), -1);
        Check.due(net + "most(0)", x.most(0), -1);
        if (odd >= 0 && odd < 1 << vertices) {
            return;
        }
        Check.due(net + "plant(" + odd + ")", x.plant(odd), -1);
        Check.due(net + "entry(" + odd + ")", x.entry(odd), -1);
        Check.due(net + "missed(" + odd + ")", x.missed(odd), -1);
        Check.due(net + "most(" + odd + ")", x.most(odd), -1);
    }
}
