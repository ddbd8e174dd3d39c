import java.util.ArrayList;
import java.util.List;

/**
 * A run of changes that any number of questions can be asked of: an object is used for 512
 * calls at most, so another one that the same changes are made on takes its place by then.
 */
final class Run {
    private static final int CALLS = 512;
    private static final int BEGIN = 0;
    private static final int ARC = 1;
    private static final int DROP = 2;
    private static final int PLANT = 3;
    private static final int FELL = 4;

    private final List<int[]> changes = new ArrayList<>();
    private BranchPacker packer = new BranchPacker();
    private int calls = 0;

    /** The object, for one question. */
    BranchPacker ask() {
        return forOneCall();
    }

    int begin(int n) {
        return change(BEGIN, n, 0);
    }

    int arc(int a, int b) {
        return change(ARC, a, b);
    }

    int drop(int e) {
        return change(DROP, e, 0);
    }

    int plant(int roots) {
        return change(PLANT, roots, 0);
    }

    int fell() {
        return change(FELL, 0, 0);
    }

    private int change(int kind, int a, int b) {
        BranchPacker x = forOneCall();
        changes.add(new int[] {kind, a, b});
        return make(x, kind, a, b);
    }

    private static int make(BranchPacker x, int kind, int a, int b) {
        switch (kind) {
            case BEGIN:
                return x.begin(a) ? 1 : 0;
            case ARC:
                return x.arc(a, b);
            case DROP:
                return x.drop(a) ? 1 : 0;
            case PLANT:
                return x.plant(a);
            default:
                return x.fell();
        }
    }

    private BranchPacker forOneCall() {
        if (calls == CALLS) {
            packer = new BranchPacker();
            calls = 0;
            for (int[] change : changes) {
                make(packer, change[0], change[1], change[2]);
                // So that a packing has been found before the next change.
                packer.owner(0);
                calls += 2;
            }
        }
        calls++;
        return packer;
    }
}
