/** Nets to try the calls on, and what can be told of them. */
final class Nets {
    /** Numbers that no argument of any call may have. */
    static final int[] FAR = {
        Integer.MIN_VALUE, Integer.MIN_VALUE + 1, -256, -128, -32, -2, -1, 256, 1 << 16, 1 << 30, Integer.MAX_VALUE};

    private Nets() {
    }

    /** A net of n vertices; each pair of digits in the text is an arc. */
    static BranchPacker net(int n, String arcs) {
        BranchPacker x = new BranchPacker();
        x.begin(n);
        for (String arc : arcs.isEmpty() ? new String[0] : arcs.split(" ")) {
            x.arc(arc.charAt(0) - '0', arc.charAt(1) - '0');
        }
        return x;
    }

    static BranchPacker planted(BranchPacker x, int... roots) {
        for (int set : roots) {
            x.plant(set);
        }
        return x;
    }

    /** 14 arcs on 7 vertices, in which two branchings from single vertices pack. */
    static BranchPacker fullNet() {
        return net(7, "01 12 23 34 45 56 60 02 13 24 35 46 50 61");
    }

    static void counts(String what, BranchPacker x, int vertices, int arcs, int branchings) {
        Check.due(what + ", count(0)", x.count(0), vertices);
        Check.due(what + ", count(1)", x.count(1), arcs);
        Check.due(what + ", count(2)", x.count(2), branchings);
    }

    /** The arcs from 0 on with their ends, told as net() takes them. */
    static String arcs(BranchPacker x) {
        StringBuilder text = new StringBuilder();
        int arcs = x.count(1);
        for (int e = 0; e < arcs; e++) {
            text.append(e == 0 ? "" : " ").append(x.end(e, 0)).append(x.end(e, 1));
        }
        return text.toString();
    }

    /** The owner of each arc from 0 on, '-' where it is NONE. */
    static String owners(BranchPacker x) {
        StringBuilder text = new StringBuilder();
        int arcs = x.count(1);
        for (int e = 0; e < arcs; e++) {
            text.append(told(x.owner(e)));
        }
        return text.toString();
    }

    /** For each branching the way to each vertex, '-' where it is NONE. */
    static String ways(BranchPacker x) {
        StringBuilder text = new StringBuilder();
        int vertices = x.count(0);
        int branchings = x.count(2);
        for (int branching = 0; branching < branchings; branching++) {
            text.append(branching == 0 ? "" : " / ");
            for (int vertex = 0; vertex < vertices; vertex++) {
                text.append(vertex == 0 ? "" : " ").append(told(x.way(branching, vertex)));
            }
        }
        return text.toString();
    }

    /** All that hangs on the state, by few enough calls that an object can be asked for it behind some others. */
    static String all(BranchPacker x) {
        StringBuilder text = new StringBuilder();
        int sets = 1 << x.count(0);
        text.append(x.count(0)).append(" vertices, ").append(x.count(2)).append(" branchings, arcs ").append(arcs(x));
        text.append(", owners ").append(owners(x)).append(", ways ").append(ways(x));
        text.append(", stopper ").append(x.stopper()).append(", missed");
        for (int set = 0; set < sets; set++) {
            text.append(' ').append(x.missed(set));
        }
        return text.toString();
    }

    private static String told(int number) {
        return number == BranchPacker.NONE ? "-" : Integer.toString(number);
    }
}
