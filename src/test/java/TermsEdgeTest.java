import java.util.function.Predicate;
import java.util.function.Supplier;

/** The boundary cases that 'What it is' and 'Terms' name: each sentence has a test of its own. */
public final class TermsEdgeTest {
    public static void main(String[] args) {
        lastOf512Calls();
        verticesUpToNLessOne();
        fourteenArcs();
        arcsToAnotherVertex();
        arcsTheSameWay();
        threeBranchings();
        rootsNotEmpty();
        setsAsSums();
        orderFewerFirst();
        orderLeastNumber();
        entryFromOutside();
        missesWithoutRoots();
        hasRootsAtFirst();
        eachArcOnce();
        untilEachHasAll();
        oneBehindTheOther();
        leastNumberThatCanGrow();
        allCanStillCome();
        noneWithoutPacking();
        atLeastAsManyArcs();
        refusedChangesNothing();
        Check.finish();
    }

    private static void lastOf512Calls() {
        Check.sentence("an object is used for at most 512 calls");
        BranchPacker x = new BranchPacker();
        int calls = 0;
        while (calls < 512 - 8) {
            Check.due("call " + calls + ", begin(2)", x.begin(2), true);
            Check.due("call " + calls + ", arc(0, 1)", x.arc(0, 1), 0);
            Check.due("call " + calls + ", plant(1)", x.plant(1), 0);
            Check.due("call " + calls + ", owner(0)", x.owner(0), 0);
            Check.due("call " + calls + ", fell()", x.fell(), 0);
            Check.due("call " + calls + ", owner(0)", x.owner(0), -1);
            Check.due("call " + calls + ", drop(0)", x.drop(0), true);
            Check.due("call " + calls + ", count(1)", x.count(1), 0);
            calls += 8;
        }
        Check.due("call 505, begin(7)", x.begin(7), true);
        Check.due("call 506, arc(0, 6)", x.arc(0, 6), 0);
        Check.due("call 507, plant(63)", x.plant(63), 0);
        Check.due("call 508, packs()", x.packs(), true);
        Check.due("call 509, spare(0)", x.spare(0), false);
        Check.due("call 510, plant(65)", x.plant(65), 1);
        Check.due("call 511, owner(0)", x.owner(0), -1);
        Check.due("call 512, stopper()", x.stopper(), 2);
    }

    private static void verticesUpToNLessOne() {
        Check.sentence("VERTICES, 0 .. N - 1, N being 1 .. 7 (1 at first)");
        Check.due("at first", new BranchPacker().count(0), 1);
        for (int n = 1; n <= 7; n++) {
            BranchPacker x = Nets.net(n, "");
            Check.due("of " + n + ", entry of all", x.entry((1 << n) - 1), 0);
            Check.due("of " + n + ", entry of the vertex " + n, x.entry(1 << n), -1);
            Check.due("of " + n + ", arc(0, " + n + ")", x.arc(0, n), -1);
            Check.due("of " + n + ", arc(" + n + ", 0)", x.arc(n, 0), -1);
            Check.due("of " + n + ", arc(0, " + (n - 1) + ")", x.arc(0, n - 1), n == 1 ? -1 : 0);
            Check.due("of " + n + ", arc(" + (n - 1) + ", 0)", x.arc(n - 1, 0), n == 1 ? -1 : 1);
        }
    }

    private static void fourteenArcs() {
        Check.sentence("ARCS, numbered from 0 on, 14 at most (none at first)");
        Check.due("at first", new BranchPacker().count(1), 0);
        BranchPacker x = Nets.net(7, "");
        Check.due("of a new net", x.count(1), 0);
        for (int e = 0; e < 14; e++) {
            Check.due("arc the " + e + ".", x.arc(e % 7, (e + 1) % 7), e);
        }
        Check.due("one more", x.arc(0, 1), -1);
        Check.due("count(1)", x.count(1), 14);
    }

    private static void arcsToAnotherVertex() {
        Check.sentence("each from one vertex to another one");
        BranchPacker x = Nets.net(7, "");
        for (int v = 0; v < 7; v++) {
            Check.due("arc(" + v + ", " + v + ")", x.arc(v, v), -1);
        }
        Check.due("count(1)", x.count(1), 0);
    }

    private static void arcsTheSameWay() {
        Check.sentence("several may go the same way");
        BranchPacker x = Nets.net(2, "10 10 10 10 10 10 10 10 10 10 10 10 10 10");
        Check.due("all 14, count(1)", x.count(1), 14);
        Check.due("all 14, entry(1)", x.entry(1), 14);
        Check.due("all 14, entry(2)", x.entry(2), 0);
        Nets.planted(x, 2, 2, 2);
        Check.same("three by the first three", Nets.owners(x), "012-----------");
    }

    private static void threeBranchings() {
        Check.sentence("BRANCHINGS, numbered from 0 on, 3 at most (none at first)");
        Check.due("at first", new BranchPacker().count(2), 0);
        BranchPacker x = Nets.net(7, "");
        for (int i = 0; i < 3; i++) {
            Check.due("plant the " + i + ".", x.plant(1), i);
        }
        Check.due("one more", x.plant(1), -1);
        Check.due("count(2)", x.count(2), 3);
    }

    private static void rootsNotEmpty() {
        Check.sentence("each with a set of ROOTS that is not empty");
        BranchPacker x = Nets.net(7, "");
        Check.due("plant(0)", x.plant(0), -1);
        Check.due("count(2)", x.count(2), 0);
        for (int v = 0; v < 3; v++) {
            Check.due("plant of one root", x.plant(1 << v), v);
        }
    }

    private static void setsAsSums() {
        Check.sentence("SETS are told as sums of 2^k for what has the number k");
        for (int v = 0; v < 7; v++) {
            BranchPacker x = Nets.planted(Nets.net(7, ""), 1 << v);
            x.arc((v + 1) % 7, v);
            for (int k = 0; k < 7; k++) {
                Check.due("arc to " + v + ", entry(" + (1 << k) + ")", x.entry(1 << k), k == v ? 1 : 0);
                Check.due("root " + v + ", missed(" + (1 << k) + ")", x.missed(1 << k), k == v ? 0 : 1);
            }
            Check.due("root " + v + ", missed(all others)", x.missed(127 - (1 << v)), 1);
            Check.due("root " + v + ", missed(127)", x.missed(127), 0);
        }
    }

    private static void orderFewerFirst() {
        Check.sentence("ORDER of sets: the one with fewer first");
        // {6} against {0, 1}, then {5, 6} against {0, 1, 2}: the larger sum is the first.
        Check.due("1 before 2", Nets.planted(Nets.net(7, "01 10 23 34 45"), 4).stopper(), 64);
        Check.due("2 before 3", Nets.planted(Nets.net(7, "01 12 20 34 56 65"), 8).stopper(), 96);
        Check.due("6 alone", Nets.planted(Nets.net(7, "12 23 34 45 56 61"), 1).stopper(), 126);
    }

    private static void orderLeastNumber() {
        Check.sentence("of two with as many the one that has the least number that only one of them has");
        Check.due("{0} before {1}", Nets.planted(Nets.net(3, ""), 4).stopper(), 1);
        Check.due("{5} before {6}", Nets.planted(Nets.net(7, "01 12 23 34"), 1).stopper(), 32);
        Check.due("{0, 6} before {1, 2}", Nets.planted(Nets.net(7, "06 60 12 21 34 43"), 32).stopper(), 65);
        // Both have 1, and 2 is the least that only one of them has; {1, 3, 4} has the lesser sum.
        String arcs = "12 12 25 25 51 13 13 34 34 41";
        Check.due("{1, 2, 5} before {1, 3, 4}", Nets.planted(Nets.net(6, arcs), 1, 1).stopper(), 38);
    }

    private static void entryFromOutside() {
        Check.sentence("the arcs that go to one in it from one that is not");
        Check.due("to it from outside", Nets.net(3, "20").entry(3), 1);
        Check.due("out of it", Nets.net(3, "02").entry(3), 0);
        Check.due("within it", Nets.net(3, "01 10").entry(3), 0);
        Check.due("wholly outside", Nets.net(4, "23 32").entry(3), 0);
        Check.due("to the empty set", Nets.net(2, "01 10").entry(0), 0);
        Check.due("to all", Nets.net(2, "01 10").entry(3), 0);
    }

    private static void missesWithoutRoots() {
        Check.sentence("a branching MISSES a set when none of its roots is in it");
        BranchPacker x = Nets.planted(Nets.net(7, ""), 64 + 1);
        Check.due("one of two roots is in it", x.missed(1), 0);
        Check.due("the other one is", x.missed(96), 0);
        Check.due("both are", x.missed(65), 0);
        Check.due("none is", x.missed(62), 1);
        Check.due("nothing is in it", x.missed(0), 1);
    }

    private static void hasRootsAtFirst() {
        Check.sentence("HAS some vertices, its roots at first; grows to one that it has not");
        BranchPacker x = Nets.planted(Nets.net(3, "01 10 12"), 3);
        Check.same("no arc to a root", Nets.owners(x), "--0");
        Check.same("from any root", Nets.ways(x), "- - 2");
        Check.same("all are roots", Nets.owners(Nets.planted(Nets.net(3, "01 10 12"), 7)), "---");
    }

    private static void eachArcOnce() {
        Check.sentence("each arc is used once at most, by one branching");
        Check.due("one for two", Nets.planted(Nets.net(2, "01"), 1, 1).packs(), false);
        BranchPacker x = Nets.planted(Nets.net(2, "01 01"), 1, 1);
        Check.due("two for two", x.packs(), true);
        Check.same("two for two", Nets.owners(x), "01");
        Check.due("two for three", Nets.planted(x, 1).packs(), false);
        x.arc(0, 1);
        Check.same("three for three", Nets.owners(x), "012");
    }

    private static void untilEachHasAll() {
        Check.sentence("all arcs by which all branchings have grown until each has all vertices");
        Check.due("one vertex is out of reach", Nets.planted(Nets.net(7, "01 12 23 34 45"), 1).packs(), false);
        BranchPacker x = Nets.planted(Nets.net(7, "56 45 34 23 12 01"), 1);
        Check.same("along a path of six", Nets.ways(x), "- 5 4 3 2 1 0");
        Check.same("every arc of it", Nets.owners(x), "000000");
    }

    private static void oneBehindTheOther() {
        Check.sentence("the branchings grow one behind the other, 0 first, each until it has all vertices");
        // Were they to take turns, 1 would have the second arc.
        Check.same("0 has both before 1", Nets.owners(Nets.planted(Nets.net(3, "01 02 01 02"), 1, 1)), "0011");
        Check.same("three in a row", Nets.owners(Nets.planted(Nets.net(3, "01 02 01 02 01 02"), 1, 1, 1)), "001122");
        Check.same("{0, 1} before {1}", Nets.owners(Nets.planted(Nets.net(3, "02 02 10"), 3, 2)), "011");
        Check.same("{1} before {0, 1}", Nets.owners(Nets.planted(Nets.net(3, "02 02 10"), 2, 3)), "010");
    }

    private static void leastNumberThatCanGrow() {
        Check.sentence("by the arc with the least number of those by which it can grow");
        Check.same("the least of three", Nets.owners(Nets.planted(Nets.net(2, "01 01 01"), 1)), "0--");
        // Arc 0 can't be grown by at first, but then it comes before arc 2.
        Check.same("one that comes later", Nets.owners(Nets.planted(Nets.net(3, "12 01 02"), 1)), "00-");
        Check.same("from the root at once", Nets.owners(Nets.planted(Nets.net(3, "02 01 12"), 1)), "00-");
        Check.same("not into what it has", Nets.owners(Nets.planted(Nets.net(2, "10 01"), 1)), "-0");
    }

    private static void allCanStillCome() {
        Check.sentence("and with which the others, and it itself, can still come to have all vertices");
        // Arc 0 is the only one out of 1, where the last branching begins.
        Check.same("left to the next", Nets.owners(Nets.planted(Nets.net(3, "12 01 02 20"), 1, 2)), "1001");
        Check.same("left to the last", Nets.owners(Nets.planted(Nets.net(3, "12 01 02 20 02"), 1, 3, 2)), "20021");
        // Arcs 0 and 1 are the only ones out of 1: 0 may take one of them, and not the other as well.
        Check.same("one of two left", Nets.owners(Nets.planted(Nets.net(4, "12 13 01 02 23 30"), 1, 2)), "010101");
        // A ring each way: what 0 takes must leave 1 a way round, and 0 its own.
        Check.same("round and round", Nets.ways(Nets.planted(Nets.net(4, "01 10 12 21 23 32 30 03"), 1, 4)),
                "- 0 2 4 / 1 3 - 7");
        Check.same("none is left over", Nets.owners(Nets.planted(Nets.net(3, "01 12 02 21"), 1, 1)), "0011");
    }

    private static void noneWithoutPacking() {
        Check.sentence("there is none when there is no packing at all");
        // Branching 0 could grow, and so could 1 if it were alone.
        BranchPacker x = Nets.planted(Nets.net(3, "01 02 10"), 1, 2);
        Check.same("owners", Nets.owners(x), "---");
        Check.same("ways", Nets.ways(x), "- - - / - - -");
        x.arc(1, 2);
        Check.same("owners, once there is one", Nets.owners(x), "0011");
    }

    private static void atLeastAsManyArcs() {
        Check.sentence("at least as many arcs as there are branchings that miss it");
        for (int branchings = 0; branchings <= 3; branchings++) {
            BranchPacker x = Nets.net(2, "");
            for (int i = 0; i < branchings; i++) {
                x.plant(1);
            }
            for (int arcs = 0; arcs <= 4; arcs++) {
                String what = arcs + " arcs, " + branchings + " branchings";
                Check.due(what, x.packs(), arcs >= branchings);
                Check.due(what, x.stopper(), arcs >= branchings ? 0 : 2);
                x.arc(0, 1);
            }
        }
    }

    private static void refusedChangesNothing() {
        Check.sentence("a call that is refused changes nothing");
        refusedByAny("new", BranchPacker::new, 1, 0);
        refusedByAny("no packing", () -> Nets.planted(Nets.net(3, "01"), 1, 2), 3, 1);
        refusedByAny("a packing", () -> Nets.planted(Nets.net(3, "12 01 02 20"), 1, 2), 3, 4);
        refusedByAny("full", TermsEdgeTest::fullAndPlanted, 7, 14);
        refused("new", BranchPacker::new, "drop(0)", x -> !x.drop(0));
        refused("none planted", () -> Nets.net(3, "01"), "fell()", x -> x.fell() == -1);
        refused("full", TermsEdgeTest::fullAndPlanted, "arc(0, 1)", x -> x.arc(0, 1) == -1);
        refused("full", TermsEdgeTest::fullAndPlanted, "plant(1)", x -> x.plant(1) == -1);
        refused("full", TermsEdgeTest::fullAndPlanted, "plant(127)", x -> x.plant(127) == -1);
    }

    private static BranchPacker fullAndPlanted() {
        return Nets.planted(Nets.fullNet(), 1, 1, 126);
    }

    private static void refusedByAny(String state, Supplier<BranchPacker> make, int vertices, int arcs) {
        refused(state, make, "begin(0)", x -> !x.begin(0));
        refused(state, make, "begin(8)", x -> !x.begin(8));
        refused(state, make, "begin(-1)", x -> !x.begin(-1));
        refused(state, make, "arc(0, 0)", x -> x.arc(0, 0) == -1);
        refused(state, make, "arc(0, " + vertices + ")", x -> x.arc(0, vertices) == -1);
        refused(state, make, "arc(" + vertices + ", 0)", x -> x.arc(vertices, 0) == -1);
        refused(state, make, "arc(-1, 0)", x -> x.arc(-1, 0) == -1);
        refused(state, make, "arc(0, -1)", x -> x.arc(0, -1) == -1);
        refused(state, make, "drop(-1)", x -> !x.drop(-1));
        refused(state, make, "drop(" + arcs + ")", x -> !x.drop(arcs));
        refused(state, make, "plant(0)", x -> x.plant(0) == -1);
        refused(state, make, "plant(" + (1 << vertices) + ")", x -> x.plant(1 << vertices) == -1);
        refused(state, make, "plant(-1)", x -> x.plant(-1) == -1);
        refused(state, make, "plant(MIN)", x -> x.plant(Integer.MIN_VALUE) == -1);
    }

    /** Makes the call before the packing has been asked for, and once more behind that. */
    private static void refused(String state, Supplier<BranchPacker> make, String call, Predicate<BranchPacker> refuses) {
        String before = Nets.all(make.get());
        BranchPacker x = make.get();
        for (int time = 0; time < 2; time++) {
            Check.due(state + ", " + call + " is refused", refuses.test(x), true);
            Check.same(state + ", " + call, Nets.all(x), before);
        }
    }
}
